/** Promises 16 to 19: take, kept, clash, room. */
public final class AfterSearchTest {
    private static final Check CHECK = new Check("AfterSearchTest");
    private static final long NONE_STANDS = Long.MIN_VALUE;

    public static void main(String[] args) {
        takeMakesTheBestCurrent();
        keptCountsByFeed();
        clashOfOneRule();
        clashOfTwoRules();
        clashOfThreeRulesOverFewer();
        clashTakesTheLeastSet();
        clashFollowsRulesAsTheyAre();
        clashOnlyOfTheLatestFeed();
        clashOnlyWhenEnded();
        clashOfAllRules();
        roomOfAMost();
        roomFollowsCentsAndRules();
        roomNeedsOneThatStands();
        roomRefuses();
        CHECK.finish();
    }

    private static void takeMakesTheBestCurrent() {
        SettingSearch x = new SettingSearch();
        x.machine(2);
        x.machine(2);
        x.machine(2);
        x.worth(0, 0, 1);
        CHECK.due("16 nothing found", x.take(), -1);
        x.feed(3);
        for (int call = 0; call < 6; call++) {
            x.next();
        }
        CHECK.due("16 asked", x.asked(0) * 100 + x.asked(1) * 10 + x.asked(2), 11 + 90);
        x.answer(0, 0, 3);
        x.next();
        CHECK.due("16 take", x.take(), 2);
        CHECK.due("16 take again", x.take(), 0);
        CHECK.due("16 best stays", x.best(0), 1);
        CHECK.due("16 sum stays", x.sum(), 3);
        CHECK.due("16 proved stays", x.proved(), true);
        CHECK.due("16 kept stay", x.kept(3), 6);
        x.feed(4);
        x.next();
        CHECK.due("16 the current one is asked first", x.asked(0) * 100 + x.asked(1) * 10 + x.asked(2), 101);
        x.answer(0, 0, 1);
        x.next();
        CHECK.due("16 then machine 0 changes", x.asked(0) * 100 + x.asked(1) * 10 + x.asked(2), 1);
        x.answer(0, 0, 4);
        x.next();
        CHECK.due("16 one changed", x.take(), 1);
    }

    private static void keptCountsByFeed() {
        SettingSearch x = new SettingSearch();
        x.machine(4);
        x.worth(0, 0, 1);
        x.feed(5);
        CHECK.due("17 begun", x.kept(5), 0);
        x.next();
        x.answer(0, 0, 1);
        CHECK.due("17 told but not taken", x.kept(5), 0);
        x.next();
        CHECK.due("17 taken", x.kept(5), 1);
        x.answer(0, 0, 5);
        x.next();
        CHECK.due("17 ended early", x.kept(5), 2);
        CHECK.due("17 all of another feed", Runs.searchAll(x, 6, 2), 4);
        CHECK.due("17 of 6", x.kept(6), 4);
        CHECK.due("17 of 5", x.kept(5), 2);
        CHECK.due("17 of 7", x.kept(7), 0);
        CHECK.due("17 of 0", x.kept(0), 0);
        CHECK.due("17 of -1", x.kept(-1), 0);
        CHECK.due("17 of MAX", x.kept(Long.MAX_VALUE), 0);
        CHECK.due("17 of MIN", x.kept(Long.MIN_VALUE), 0);
        CHECK.due("17 of 2^32 + 6", x.kept((1L << 32) + 6), 0);
        x.worth(0, 0, 0);
        x.worth(0, 1, 1);
        CHECK.due("17 the rest of 5", Runs.searchAll(x, 5, 2), 2);
        CHECK.due("17 all of 5", x.kept(5), 4);
    }

    /** Four vectors; the answer of vector i has the loads of row i. */
    private static SettingSearch withLoads(int[][] loads) {
        SettingSearch x = new SettingSearch();
        x.machine(4);
        for (int machine = 1; machine < loads[0].length; machine++) {
            x.machine(1);
        }
        x.worth(0, 0, 1);
        x.feed(100);
        for (int row = 0; row < loads.length; row++) {
            x.next();
            x.answer(0, 0, 10 * (row + 1));
            for (int machine = 0; machine < loads[row].length; machine++) {
                x.load(machine, loads[row][machine]);
            }
        }
        x.next();
        return x;
    }

    private static void mosts(SettingSearch x, int... v) {
        for (int machine = 0; machine < v.length; machine++) {
            x.most(machine, v[machine]);
        }
    }

    private static void dueClash(SettingSearch x, String call, int... rules) {
        for (int k = 0; k < rules.length; k++) {
            CHECK.due("18 " + call + " clash(" + k + ")", x.clash(k), rules[k]);
        }
        CHECK.due("18 " + call + " clash(" + rules.length + ")", x.clash(rules.length), -1);
        CHECK.due("18 " + call + " clash(-1)", x.clash(-1), -1);
        CHECK.due("18 " + call + " clash(MIN)", x.clash(Integer.MIN_VALUE), -1);
        CHECK.due("18 " + call + " clash(MAX)", x.clash(Integer.MAX_VALUE), -1);
    }

    private static void clashOfOneRule() {
        SettingSearch x = withLoads(new int[][] {{1, 5}, {2, 5}, {3, 5}, {4, 5}});
        dueClash(x, "no rules");
        mosts(x, 1, 5);
        dueClash(x, "one stands");
        mosts(x, 1, 4);
        dueClash(x, "machine 1 alone", 5);
        mosts(x, 0, 4);
        dueClash(x, "each alone: the lesser", 4);
        mosts(x, -1, 4);
        dueClash(x, "one rule told", 5);
    }

    private static void clashOfTwoRules() {
        SettingSearch x = withLoads(new int[][] {{1, 9, 0}, {9, 1, 0}, {1, 9, 9}, {9, 9, 9}});
        mosts(x, 1, 1, 0);
        dueClash(x, "0 against 1", 4, 5);
        SettingSearch y = withLoads(new int[][] {{1, 1, 9}, {1, 1, 9}, {9, 9, 1}, {9, 1, 9}});
        mosts(y, 1, 1, 1);
        dueClash(y, "0 against 2 before 1 against 2", 4, 6);
    }

    private static void clashOfThreeRulesOverFewer() {
        int[][] pairs = {{0, 0, 9, 0}, {0, 9, 0, 0}, {9, 0, 0, 0}, {9, 9, 9, 0}};
        SettingSearch x = withLoads(pairs);
        mosts(x, 1, 1, 1, 1);
        dueClash(x, "only all three", 4, 5, 6);
        x.purity(0, 0, 0, 1);
        x.purity(0, 1, 1, 1);
        dueClash(x, "a purity alone", 1);
    }

    private static void clashTakesTheLeastSet() {
        // Both {4, 7} and {5, 6} clash: 2^4 + 2^7 is more than 2^5 + 2^6.
        SettingSearch x = withLoads(new int[][] {{0, 0, 9, 9}, {0, 9, 0, 9}, {9, 0, 9, 0}, {9, 9, 0, 0}});
        mosts(x, 1, 1, 1, 1);
        dueClash(x, "least sum", 5, 6);
    }

    private static void clashFollowsRulesAsTheyAre() {
        SettingSearch x = withLoads(new int[][] {{1}, {2}, {3}, {4}});
        CHECK.due("18 sum", x.sum(), 40);
        x.purity(0, 0, 1, 1);
        x.purity(1, 0, 1, 1);
        dueClash(x, "an empty port is pure");
        x.purity(0, 1, 1, 1000);
        dueClash(x, "no kind 1 in port 0", 2);
        CHECK.due("18 best stays", x.best(0), 3);
        x.purity(0, 2, 1, 1000);
        dueClash(x, "the first of two", 2);
        x.most(0, 0);
        dueClash(x, "the first of three", 2);
    }

    private static void clashOnlyOfTheLatestFeed() {
        SettingSearch x = withLoads(new int[][] {{5}, {5}, {5}, {5}});
        Runs.searchAll(x, 50, 1);
        x.most(0, 4);
        dueClash(x, "feed 50 stands");
        x.feed(100);
        dueClash(x, "goes on");
        x.next();
        dueClash(x, "feed 100 does not", 4);
        SettingSearch y = new SettingSearch();
        y.machine(2);
        y.worth(0, 0, 1);
        y.feed(3);
        y.next();
        y.answer(0, 0, 3);
        y.load(0, 3);
        y.next();
        y.most(0, 2);
        dueClash(y, "of the one answer that is kept", 4);
    }

    private static void clashOnlyWhenEnded() {
        SettingSearch x = new SettingSearch();
        x.machine(2);
        x.most(0, 0);
        dueClash(x, "nothing searched");
        x.feed(3);
        dueClash(x, "begun");
        x.next();
        x.load(0, 1);
        x.next();
        x.load(0, 1);
        dueClash(x, "one kept");
        x.next();
        dueClash(x, "ended", 4);
        x.machine(1);
        dueClash(x, "forgotten");
    }

    private static void clashOfAllRules() {
        SettingSearch x = new SettingSearch();
        int[] settings = {4, 3, 1, 1, 1};
        for (int one : settings) {
            x.machine(one);
        }
        int[][] purities = {{0, 0}, {0, 1}, {1, 0}, {1, 1}};
        for (int[] purity : purities) {
            x.purity(purity[0], purity[1], 1, 3);
        }
        mosts(x, 1, 1, 1, 1, 1);
        x.worth(2, 2, 1);
        x.feed(9);
        // Each of nine answers breaks one rule of its own, three more break all mosts and two purities.
        for (int broken = 0; broken < 12; broken++) {
            x.next();
            x.answer(0, 0, broken == 0 ? 0 : 1);
            x.answer(0, 1, broken == 1 ? 0 : 1);
            x.answer(0, 2, broken >= 9 ? 4 : 0);
            x.answer(1, 0, broken == 2 ? 0 : 1);
            x.answer(1, 1, broken == 3 ? 0 : 1);
            for (int machine = 0; machine < 5; machine++) {
                x.load(machine, broken == 4 + machine || broken >= 9 ? 2 : 1);
            }
        }
        CHECK.due("18 all gone through", x.next(), 0);
        dueClash(x, "all nine", 0, 1, 2, 3, 4, 5, 6, 7, 8);
        x.most(4, -1);
        dueClash(x, "one of them gone");
    }

    private static void roomOfAMost() {
        SettingSearch x = withLoads(new int[][] {{1, 1}, {1, 2}, {2, 1}, {2, 2}});
        CHECK.due("19 without rules", x.room(0), 0);
        mosts(x, 1, 1);
        CHECK.due("19 machine 0's most costs", x.room(0), 20);
        CHECK.due("19 machine 1's most costs", x.room(1), 10);
        mosts(x, 1, 2);
        CHECK.due("19 machine 0's costs", x.room(0), 20);
        CHECK.due("19 machine 1's costs nothing", x.room(1), 0);
        mosts(x, -1, 1);
        CHECK.due("19 no most", x.room(0), 0);
        CHECK.due("19 the other's", x.room(1), 10);
    }

    private static void roomFollowsCentsAndRules() {
        SettingSearch x = withLoads(new int[][] {{1}, {2}, {3}, {4}});
        x.most(0, 1);
        x.worth(0, 0, 7);
        CHECK.due("19 by cents as they are", x.room(0), 210);
        x.worth(0, 0, -7);
        CHECK.due("19 by cents below 0", x.room(0), 0);
        x.most(0, 2);
        x.worth(0, 0, 2);
        CHECK.due("19 by most as it is", x.room(0), 40);
        x.purity(0, 0, 1, 1);
        CHECK.due("19 a purity that all keep", x.room(0), 40);
        x.feed(30);
        CHECK.due("19 goes on", x.room(0), NONE_STANDS);
        x.next();
        x.answer(0, 0, 30);
        x.next();
        CHECK.due("19 of the latest feed", x.room(0), 0);
    }

    private static void roomNeedsOneThatStands() {
        SettingSearch x = withLoads(new int[][] {{5}, {2}, {3}, {4}});
        x.most(0, 1);
        CHECK.due("19 none stands", x.room(0), NONE_STANDS);
        x.most(0, 2);
        CHECK.due("19 one stands", x.room(0), 20);
        x.purity(0, 1, 1, 1);
        CHECK.due("19 none is pure", x.room(0), NONE_STANDS);
    }

    private static void roomRefuses() {
        SettingSearch x = withLoads(new int[][] {{1}, {2}, {3}, {4}});
        CHECK.due("19 room(0)", x.room(0), 0);
        CHECK.due("19 room(1)", x.room(1), NONE_STANDS);
        CHECK.due("19 room(-1)", x.room(-1), NONE_STANDS);
        CHECK.due("19 room(MIN)", x.room(Integer.MIN_VALUE), NONE_STANDS);
        CHECK.due("19 room(MAX)", x.room(Integer.MAX_VALUE), NONE_STANDS);
        x.machine(1);
        CHECK.due("19 forgotten", x.room(0), NONE_STANDS);
    }
}
