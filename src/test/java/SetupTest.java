/** Promises 1 to 5, sentence by sentence: a new object, machine, worth, purity, most. */
public final class SetupTest {
    private static final Check CHECK = new Check("SetupTest");

    public static void main(String[] args) {
        newObjectHasNoMachines();
        newObjectHasNoRules();
        newObjectHasCentsOfNought();
        newObjectHasNothingSearched();
        objectsAreApart();
        machineStartsAtNought();
        machineKeepsNoAnswers();
        machineLeavesNothingSearched();
        machineLeavesCentsRulesAndSettings();
        machineAnswersItsNumber();
        machineRefusesASixth();
        machineRefusesOtherSettings();
        machineRefusesMoreThan64Vectors();
        worthBecomesItsEdges();
        worthIsToldAnew();
        worthRefusesOtherCents();
        worthRefusesOtherPlaces();
        purityIsOneMore();
        purityTakesItsEdges();
        purityRefusesAFifth();
        purityRefusesOtherShares();
        purityRefusesOtherPlaces();
        mostBecomesItsEdges();
        mostBecomesNone();
        mostIsNoneAtFirst();
        mostRefusesOtherNumbers();
        mostRefusesOtherMachines();
        CHECK.finish();
    }

    private static void newObjectHasNoMachines() {
        CHECK.sentence("1: No machines");
        SettingSearch x = new SettingSearch();
        CHECK.due("feed", x.feed(1), false);
        CHECK.due("most", x.most(0, 1), false);
        CHECK.due("first machine", x.machine(1), 0);
    }

    private static void newObjectHasNoRules() {
        CHECK.sentence("1: no rules");
        CHECK.due("first purity", new SettingSearch().purity(0, 0, 1, 1), 0);
        SettingSearch x = Runs.machines(1);
        x.feed(9);
        x.next();
        x.answer(1, 1, 9);
        x.load(0, 1000000);
        x.next();
        CHECK.due("any answer stands", x.best(0), 0);
        CHECK.due("nothing clashes", x.clash(0), -1);
    }

    private static void newObjectHasCentsOfNought() {
        CHECK.sentence("1: all cents 0");
        for (int place = 0; place < 9; place++) {
            SettingSearch x = Runs.machines(2);
            x.feed(9);
            CHECK.due("bound", x.bound(), 0);
            x.next();
            x.answer(place / 3, place % 3, 9);
            CHECK.due("next", x.next(), 0);
            CHECK.due("sum of grams in place " + place, x.sum(), 0);
        }
    }

    private static void newObjectHasNothingSearched() {
        CHECK.sentence("1: nothing searched");
        dueNothingSearched(new SettingSearch());
    }

    private static void dueNothingSearched(SettingSearch x) {
        CHECK.due("next", x.next(), -1);
        CHECK.due("asked", x.asked(0), -1);
        CHECK.due("answer", x.answer(0, 0, 0), false);
        CHECK.due("load", x.load(0, 0), false);
        CHECK.due("best", x.best(0), -1);
        CHECK.due("sum", x.sum(), Runs.NO_SUM);
        CHECK.due("bound", x.bound(), -1);
        CHECK.due("proved", x.proved(), false);
        CHECK.due("changes", x.changes(), -1);
        CHECK.due("take", x.take(), -1);
        CHECK.due("kept", x.kept(1), 0);
        CHECK.due("kept of no feed", x.kept(0), 0);
        CHECK.due("clash", x.clash(0), -1);
        CHECK.due("room", x.room(0), Runs.NO_SUM);
    }

    private static void objectsAreApart() {
        CHECK.sentence("1: a new object, after others were used");
        SettingSearch other = Runs.twoByThree();
        other.purity(0, 0, 1, 1);
        other.most(0, 1);
        Runs.searchAll(other, 1, 0);
        SettingSearch x = new SettingSearch();
        dueNothingSearched(x);
        CHECK.due("machine", x.machine(1), 0);
        CHECK.due("purity", x.purity(0, 0, 1, 1), 0);
        CHECK.due("kept by the other", other.kept(1), 6);
    }

    private static void machineStartsAtNought() {
        CHECK.sentence("2: One more machine, its setting 0 being the current one");
        SettingSearch x = Runs.machines(3);
        x.worth(0, 0, 1);
        Runs.endAt(x, 5, 2);
        CHECK.due("take", x.take(), 1);
        x.machine(4);
        x.feed(5);
        x.next();
        CHECK.due("first asked", Runs.asked(x, 2).toString(), "[2, 0]");
        x.answer(0, 0, 5);
        x.next();
        CHECK.due("changes", x.changes(), 0);
    }

    private static void machineKeepsNoAnswers() {
        CHECK.sentence("2: no answers are kept then");
        SettingSearch x = Runs.machines(2);
        x.worth(0, 0, 10);
        for (int feed = 1; feed <= 4; feed++) {
            Runs.searchAll(x, feed, 0);
            CHECK.due("kept before", x.kept(feed), 2);
        }
        CHECK.due("machine of one setting", x.machine(1), 1);
        for (int feed = 1; feed <= 4; feed++) {
            CHECK.due("kept then", x.kept(feed), 0);
        }
        for (int feed = 4; feed <= 7; feed++) {
            CHECK.due("asked in feed " + feed, Runs.searchAll(x, feed, 0), 2);
            CHECK.due("kept after it", x.kept(feed), 2);
        }
        CHECK.due("feed that was kept once", x.feed(1), false);
    }

    private static void machineLeavesNothingSearched() {
        CHECK.sentence("2: nothing is searched or found then");
        SettingSearch x = Runs.machines(2);
        x.worth(0, 0, 10);
        Runs.searchAll(x, 1, 0);
        x.machine(1);
        dueNothingSearched(x);
        CHECK.due("best of the new one", x.best(1), -1);
        SettingSearch y = Runs.machines(2);
        y.most(0, 0);
        y.feed(1);
        y.next();
        y.load(0, 1);
        y.next();
        y.load(0, 1);
        y.next();
        CHECK.due("clash before", y.clash(0), 4);
        y.machine(1);
        dueNothingSearched(y);
    }

    private static void machineLeavesCentsRulesAndSettings() {
        CHECK.sentence("2: no more than that changes: cents, rules, other machines' settings");
        SettingSearch x = Runs.machines(3);
        x.worth(0, 0, 2);
        x.purity(0, 0, 1, 1);
        x.most(0, 4);
        Runs.endAt(x, 10, 1);
        x.take();
        x.machine(2);
        x.feed(10);
        CHECK.due("cents", x.bound(), 20);
        x.next();
        CHECK.due("setting", x.asked(0), 1);
        x.answer(0, 0, 9);
        x.answer(0, 1, 1);
        x.next();
        CHECK.due("not pure", x.sum(), Runs.NO_SUM);
        x.answer(0, 0, 9);
        x.load(0, 5);
        x.next();
        CHECK.due("too much load", x.sum(), Runs.NO_SUM);
        x.load(1, 1000000);
        x.next();
        CHECK.due("the new one has no most", x.sum(), 0);
        CHECK.due("next purity", purityAfterTheEnd(x), 1);
    }

    private static int purityAfterTheEnd(SettingSearch x) {
        for (int call = 0; call < 65 && x.next() == 1; call++) {
            x.load(0, 5);
        }
        return x.purity(0, 0, 1, 1);
    }

    private static void machineAnswersItsNumber() {
        CHECK.sentence("2: Answers its number");
        SettingSearch x = new SettingSearch();
        int[] settings = {2, 1, 4, 1, 3};
        for (int number = 0; number < 5; number++) {
            CHECK.due("machine(" + settings[number] + ")", x.machine(settings[number]), number);
        }
    }

    private static void machineRefusesASixth() {
        CHECK.sentence("2: NONE when there are 5");
        SettingSearch x = Runs.machines(1, 1, 1, 1, 1);
        for (int settings = 1; settings <= 4; settings++) {
            CHECK.due("machine(" + settings + ")", x.machine(settings), -1);
        }
        CHECK.due("asked in all", Runs.searchAll(x, 5, 0), 1);
        CHECK.due("sixth after a search", x.machine(1), -1);
        CHECK.due("kept", x.kept(5), 1);
    }

    private static void machineRefusesOtherSettings() {
        CHECK.sentence("2: NONE when settings are not such");
        SettingSearch x = new SettingSearch();
        // Four times 2^30 is 0 in an int, and so would be fewer than 64 vectors.
        int[] wrong = {0, -1, -4, 5, 64, 1 << 30, Integer.MIN_VALUE, Integer.MAX_VALUE};
        for (int settings : wrong) {
            CHECK.due("machine(" + settings + ")", x.machine(settings), -1);
        }
        CHECK.due("machine(4)", x.machine(4), 0);
        for (int settings : wrong) {
            CHECK.due("second machine(" + settings + ")", x.machine(settings), -1);
        }
        CHECK.due("machine(1)", x.machine(1), 1);
    }

    private static void machineRefusesMoreThan64Vectors() {
        CHECK.sentence("2: NONE when there were more than 64 vectors");
        SettingSearch x = Runs.machines(4, 4, 3);
        x.worth(0, 0, 1);
        Runs.searchAll(x, 5, 1);
        CHECK.due("96 vectors", x.machine(2), -1);
        CHECK.due("kept after a refusal", x.kept(5), 48);
        CHECK.due("proved after a refusal", x.proved(), true);
        CHECK.due("48 vectors", x.machine(1), 3);
        CHECK.due("kept then", x.kept(5), 0);
        SettingSearch y = Runs.machines(4, 4);
        CHECK.due("64 vectors", y.machine(4), 2);
        CHECK.due("128 vectors", y.machine(2), -1);
        CHECK.due("256 vectors", y.machine(4), -1);
        CHECK.due("64 vectors still", y.machine(1), 3);
        SettingSearch z = Runs.machines(3, 3, 3);
        CHECK.due("81 vectors", z.machine(3), -1);
        CHECK.due("54 vectors", z.machine(2), 3);
    }

    private static void worthBecomesItsEdges() {
        CHECK.sentence("3: The cents of a gram of a kind in a port become -1000 .. 1000");
        int[] edges = {-1000, -999, -1, 0, 1, 999, 1000};
        for (int place = 0; place < 9; place++) {
            for (int cents : edges) {
                SettingSearch x = Runs.machines(1);
                CHECK.due("worth of " + cents, x.worth(place / 3, place % 3, cents), true);
                x.feed(1000000);
                CHECK.due("bound by " + cents, x.bound(), Math.max(0, cents) * 1000000L);
                x.next();
                x.answer(place / 3, place % 3, 1000000);
                x.next();
                CHECK.due("sum by " + cents, x.sum(), cents * 1000000L);
            }
        }
    }

    private static void worthIsToldAnew() {
        CHECK.sentence("3: The cents become: the ones before are gone");
        SettingSearch x = Runs.machines(1);
        x.worth(1, 2, 1000);
        x.worth(1, 2, 7);
        x.feed(10);
        CHECK.due("bound", x.bound(), 70);
        x.next();
        x.answer(1, 2, 4);
        x.next();
        CHECK.due("sum", x.sum(), 28);
    }

    private static void worthRefusesOtherCents() {
        CHECK.sentence("3: or false: the cents are not such");
        int[] wrong = {-1001, 1001, -2000, 2000, Integer.MIN_VALUE, Integer.MAX_VALUE};
        for (int place = 0; place < 9; place++) {
            SettingSearch x = Runs.machines(1);
            x.worth(place / 3, place % 3, 3);
            for (int cents : wrong) {
                CHECK.due("worth of " + cents, x.worth(place / 3, place % 3, cents), false);
            }
            x.feed(1);
            CHECK.due("cents are still 3", x.bound(), 3);
        }
    }

    private static void worthRefusesOtherPlaces() {
        CHECK.sentence("3: or false: there is no such port or kind");
        SettingSearch x = Runs.machines(1);
        for (int[] place : Runs.WRONG_PLACES) {
            CHECK.due("worth of " + place[0] + ", " + place[1], x.worth(place[0], place[1], 5), false);
        }
        x.feed(1);
        CHECK.due("cents are still 0", x.bound(), 0);
    }

    private static void purityIsOneMore() {
        CHECK.sentence("4: One more purity. Answers its number");
        SettingSearch x = Runs.machines(1);
        x.feed(4);
        x.next();
        x.answer(0, 0, 2);
        x.answer(0, 1, 2);
        x.next();
        CHECK.due("without a rule", x.room(0), 0);
        CHECK.due("first, which is kept", x.purity(0, 0, 1, 2), 0);
        CHECK.due("stands", x.room(0), 0);
        CHECK.due("second, which is not", x.purity(0, 1, 2, 3), 1);
        CHECK.due("clash", x.clash(0), 1);
        CHECK.due("third", x.purity(0, 0, 1, 2), 2);
        CHECK.due("fourth", x.purity(0, 0, 1, 2), 3);
        CHECK.due("clash still", x.clash(0), 1);
    }

    private static void purityTakesItsEdges() {
        CHECK.sentence("4: above 0 .. 1000, below 1 .. 1000");
        int[][] edges = {{0, 1}, {0, 1000}, {1000, 1}, {1000, 1000}, {1, 1}, {999, 999}};
        for (int[] edge : edges) {
            CHECK.due("purity of " + edge[0] + ", " + edge[1],
                    new SettingSearch().purity(2, 2, edge[0], edge[1]), 0);
        }
        for (int place = 0; place < 9; place++) {
            CHECK.due("purity of place " + place, new SettingSearch().purity(place / 3, place % 3, 1, 1), 0);
        }
    }

    private static void purityRefusesAFifth() {
        CHECK.sentence("4: NONE when there are 4");
        SettingSearch x = Runs.machines(1);
        for (int number = 0; number < 4; number++) {
            CHECK.due("purity", x.purity(0, 0, 0, 1), number);
        }
        CHECK.due("fifth", x.purity(0, 1, 1000, 1), -1);
        x.feed(1);
        x.next();
        x.answer(0, 0, 1);
        x.next();
        CHECK.due("the fifth is no rule", x.best(0), 0);
        CHECK.due("fifth after a search", x.purity(0, 0, 0, 1), -1);
        x.machine(1);
        CHECK.due("fifth after one more machine", x.purity(0, 0, 0, 1), -1);
    }

    private static void purityRefusesOtherShares() {
        CHECK.sentence("4: NONE when these are not such: above, below");
        SettingSearch x = new SettingSearch();
        int[][] wrong = {{-1, 1}, {1001, 1}, {1, 0}, {1, -1}, {1, 1001}, {0, 0}, {-1, 0}, {1001, 1001},
            {Integer.MIN_VALUE, 1}, {Integer.MAX_VALUE, 1}, {1, Integer.MIN_VALUE}, {1, Integer.MAX_VALUE}};
        for (int[] shares : wrong) {
            CHECK.due("purity of " + shares[0] + ", " + shares[1], x.purity(0, 0, shares[0], shares[1]), -1);
        }
        CHECK.due("no number is gone", x.purity(0, 0, 1, 1), 0);
    }

    private static void purityRefusesOtherPlaces() {
        CHECK.sentence("4: NONE when these are not such: port, kind");
        SettingSearch x = new SettingSearch();
        for (int[] place : Runs.WRONG_PLACES) {
            CHECK.due("purity of " + place[0] + ", " + place[1], x.purity(place[0], place[1], 1, 1), -1);
        }
        CHECK.due("no number is gone", x.purity(0, 0, 1, 1), 0);
    }

    /** One answer for five machines, each with a load of 500000. */
    private static SettingSearch loaded() {
        SettingSearch x = Runs.machines(1, 1, 1, 1, 1);
        x.feed(1);
        x.next();
        for (int machine = 0; machine < 5; machine++) {
            x.load(machine, 500000);
        }
        x.next();
        return x;
    }

    private static void mostBecomesItsEdges() {
        CHECK.sentence("5: A machine's most becomes 0 .. 1000000");
        for (int machine = 0; machine < 5; machine++) {
            SettingSearch x = loaded();
            CHECK.due("most of 0", x.most(machine, 0), true);
            CHECK.due("clash", x.clash(0), 4 + machine);
            CHECK.due("most of 1000000", x.most(machine, 1000000), true);
            CHECK.due("no clash", x.clash(0), -1);
            CHECK.due("most of 499999", x.most(machine, 499999), true);
            CHECK.due("clash again", x.clash(0), 4 + machine);
            CHECK.due("most of 500000", x.most(machine, 500000), true);
            CHECK.due("no clash again", x.clash(0), -1);
        }
    }

    private static void mostBecomesNone() {
        CHECK.sentence("5: or none (-1)");
        for (int machine = 0; machine < 5; machine++) {
            SettingSearch x = loaded();
            x.most(machine, 0);
            CHECK.due("most of -1", x.most(machine, -1), true);
            CHECK.due("no rule is left", x.clash(0), -1);
            CHECK.due("stands", x.room(0), 0);
            CHECK.due("most of -1 again", x.most(machine, -1), true);
        }
    }

    private static void mostIsNoneAtFirst() {
        CHECK.sentence("5: none, as at first");
        SettingSearch x = Runs.machines(1, 1, 1, 1, 1);
        x.feed(1);
        x.next();
        for (int machine = 0; machine < 5; machine++) {
            x.load(machine, 1000000);
        }
        x.next();
        CHECK.due("stands", x.best(0), 0);
    }

    private static void mostRefusesOtherNumbers() {
        CHECK.sentence("5: or false: the most is not such");
        int[] wrong = {-2, 1000001, Integer.MIN_VALUE, Integer.MAX_VALUE};
        for (int v : wrong) {
            SettingSearch x = loaded();
            x.most(0, 500000);
            CHECK.due("most of " + v, x.most(0, v), false);
            CHECK.due("it stands still", x.clash(0), -1);
            x.most(0, 499999);
            CHECK.due("most of " + v, x.most(0, v), false);
            CHECK.due("it still does not", x.clash(0), 4);
        }
    }

    private static void mostRefusesOtherMachines() {
        CHECK.sentence("5: or false: there is no such machine");
        SettingSearch x = loaded();
        for (int machine : Runs.WRONG_MACHINES) {
            CHECK.due("most of machine " + machine, x.most(machine, 0), false);
            CHECK.due("no most of machine " + machine, x.most(machine, -1), false);
        }
        CHECK.due("no rule came", x.clash(0), -1);
        SettingSearch y = new SettingSearch();
        for (int machine = 0; machine < 5; machine++) {
            CHECK.due("most of one that is not yet", y.most(machine, 0), false);
            y.machine(1);
            CHECK.due("most of one that is", y.most(machine, 0), true);
        }
    }
}
