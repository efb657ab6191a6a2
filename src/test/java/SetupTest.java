/** Promises 1 to 5: a new object, machine, worth, purity, most. */
public final class SetupTest {
    private static final Check CHECK = new Check("SetupTest");
    private static final long NO_SUM = Long.MIN_VALUE;

    public static void main(String[] args) {
        newObject();
        newObjectHasCentsOfNought();
        machineNumbers();
        machineRefusesSettings();
        machineRefusesMoreThan64Vectors();
        machineForgetsSearches();
        machineKeepsCurrentCentsAndRules();
        worthSetsCents();
        worthRefuses();
        purityNumbers();
        purityRefuses();
        purityIsKept();
        mostIsKept();
        mostRefuses();
        goingSearchRefuses();
        CHECK.finish();
    }

    private static void newObject() {
        SettingSearch x = new SettingSearch();
        CHECK.due("1 next", x.next(), -1);
        CHECK.due("1 asked", x.asked(0), -1);
        CHECK.due("1 answer", x.answer(0, 0, 0), false);
        CHECK.due("1 load", x.load(0, 0), false);
        CHECK.due("1 best", x.best(0), -1);
        CHECK.due("1 sum", x.sum(), NO_SUM);
        CHECK.due("1 bound", x.bound(), -1);
        CHECK.due("1 proved", x.proved(), false);
        CHECK.due("1 changes", x.changes(), -1);
        CHECK.due("1 take", x.take(), -1);
        CHECK.due("1 kept", x.kept(1), 0);
        CHECK.due("1 kept of no feed", x.kept(0), 0);
        CHECK.due("1 clash", x.clash(0), -1);
        CHECK.due("1 room", x.room(0), NO_SUM);
        CHECK.due("1 feed", x.feed(1), false);
        CHECK.due("1 most", x.most(0, 1), false);
    }

    private static void newObjectHasCentsOfNought() {
        SettingSearch x = new SettingSearch();
        x.machine(3);
        x.feed(9);
        CHECK.due("1 bound of cents 0", x.bound(), 0);
        x.next();
        x.answer(1, 1, 9);
        x.load(0, 1000000);
        CHECK.due("1 next without rules", x.next(), 0);
        CHECK.due("1 sum of cents 0", x.sum(), 0);
    }

    private static void machineNumbers() {
        SettingSearch x = new SettingSearch();
        for (int number = 0; number < 5; number++) {
            CHECK.due("2 machine(2)", x.machine(2), number);
        }
        CHECK.due("2 sixth machine", x.machine(1), -1);
    }

    private static void machineRefusesSettings() {
        SettingSearch x = new SettingSearch();
        int[] wrong = {0, -1, 5, Integer.MIN_VALUE, Integer.MAX_VALUE};
        for (int settings : wrong) {
            CHECK.due("2 machine(" + settings + ")", x.machine(settings), -1);
        }
        CHECK.due("2 machine(1)", x.machine(1), 0);
        CHECK.due("2 machine(4)", x.machine(4), 1);
    }

    private static void machineRefusesMoreThan64Vectors() {
        SettingSearch x = new SettingSearch();
        x.worth(0, 0, 1);
        x.machine(4);
        x.machine(4);
        x.machine(3);
        Runs.searchAll(x, 5, 1);
        CHECK.due("2 kept before", x.kept(5), 48);
        CHECK.due("2 96 vectors", x.machine(2), -1);
        CHECK.due("2 kept after a refusal", x.kept(5), 48);
        CHECK.due("2 proved after a refusal", x.proved(), true);
        CHECK.due("2 asks of no machine 3", x.asked(3), -1);
        CHECK.due("2 48 vectors", x.machine(1), 3);
        CHECK.due("2 kept then", x.kept(5), 0);
        SettingSearch y = new SettingSearch();
        y.worth(0, 0, 1);
        y.machine(4);
        y.machine(4);
        CHECK.due("2 64 vectors", y.machine(4), 2);
        Runs.searchAll(y, 5, 1);
        CHECK.due("2 all 64", y.kept(5), 64);
    }

    private static void machineForgetsSearches() {
        SettingSearch x = new SettingSearch();
        x.machine(2);
        x.worth(0, 0, 1);
        for (int feed = 1; feed <= 4; feed++) {
            Runs.searchAll(x, feed, 0);
        }
        CHECK.due("2 fifth feed", x.feed(5), false);
        x.machine(2);
        CHECK.due("2 kept", x.kept(1) + x.kept(2) + x.kept(3) + x.kept(4), 0);
        CHECK.due("2 best", x.best(0), -1);
        CHECK.due("2 sum", x.sum(), NO_SUM);
        CHECK.due("2 bound", x.bound(), -1);
        CHECK.due("2 proved", x.proved(), false);
        CHECK.due("2 changes", x.changes(), -1);
        CHECK.due("2 take", x.take(), -1);
        CHECK.due("2 clash", x.clash(0), -1);
        CHECK.due("2 room", x.room(0), NO_SUM);
        CHECK.due("2 next", x.next(), -1);
        CHECK.due("2 feed anew", x.feed(5), true);
    }

    private static void machineKeepsCurrentCentsAndRules() {
        SettingSearch x = new SettingSearch();
        x.machine(3);
        x.worth(0, 0, 2);
        x.purity(0, 0, 1, 1);
        x.most(0, 4);
        x.feed(10);
        x.next();
        x.next();
        x.answer(0, 0, 10);
        x.next();
        CHECK.due("2 take before", x.take(), 1);
        x.machine(2);
        x.feed(10);
        CHECK.due("2 cents stay", x.bound(), 20);
        x.next();
        CHECK.due("2 current stays", x.asked(0), 1);
        CHECK.due("2 setting 0 is the new one's current", x.asked(1), 0);
        x.answer(0, 0, 9);
        x.answer(0, 1, 1);
        x.next();
        CHECK.due("2 purity stays", x.sum(), NO_SUM);
        CHECK.due("2 second of the order, machine 0", x.asked(0), 0);
        x.answer(0, 0, 9);
        x.load(0, 5);
        x.next();
        CHECK.due("2 most stays", x.sum(), NO_SUM);
        x.load(1, 1000000);
        x.next();
        CHECK.due("2 the new one has no most", x.sum(), 0);
    }

    private static void worthSetsCents() {
        SettingSearch x = new SettingSearch();
        x.machine(1);
        for (int port = 0; port < 3; port++) {
            for (int kind = 0; kind < 3; kind++) {
                CHECK.due("3 worth", x.worth(port, kind, port * 100 + kind * 10 - 105), true);
            }
        }
        x.feed(1000);
        x.next();
        for (int port = 0; port < 3; port++) {
            for (int kind = 0; kind < 3; kind++) {
                x.answer(port, kind, 1 + port + 7 * kind);
            }
        }
        x.next();
        long want = 0;
        for (int port = 0; port < 3; port++) {
            for (int kind = 0; kind < 3; kind++) {
                want += (port * 100 + kind * 10 - 105) * (1 + port + 7 * kind);
            }
        }
        CHECK.due("3 sum", x.sum(), want);
        CHECK.due("3 bound", x.bound(), 115000);
        CHECK.due("3 least cents", x.worth(0, 0, -1000), true);
        CHECK.due("3 most cents", x.worth(0, 0, 1000), true);
        CHECK.due("3 bound then", x.bound(), 1000000);
    }

    private static void worthRefuses() {
        SettingSearch x = new SettingSearch();
        x.machine(1);
        CHECK.due("3 cents 1001", x.worth(0, 0, 1001), false);
        CHECK.due("3 cents -1001", x.worth(0, 0, -1001), false);
        CHECK.due("3 cents MIN", x.worth(0, 0, Integer.MIN_VALUE), false);
        CHECK.due("3 port 3", x.worth(3, 0, 1), false);
        CHECK.due("3 port -1", x.worth(-1, 0, 1), false);
        CHECK.due("3 port -1, kind 3", x.worth(-1, 3, 1), false);
        CHECK.due("3 kind 3", x.worth(0, 3, 1), false);
        CHECK.due("3 kind -1", x.worth(1, -1, 1), false);
        x.feed(1);
        CHECK.due("3 nothing changed", x.bound(), 0);
    }

    private static void purityNumbers() {
        SettingSearch x = new SettingSearch();
        for (int number = 0; number < 4; number++) {
            CHECK.due("4 purity", x.purity(2, 2, 0, 1000), number);
        }
        CHECK.due("4 fifth purity", x.purity(2, 2, 0, 1000), -1);
    }

    private static void purityRefuses() {
        SettingSearch x = new SettingSearch();
        int[][] wrong = {{-1, 0, 1, 1}, {3, 0, 1, 1}, {0, -1, 1, 1}, {0, 3, 1, 1}, {0, 0, -1, 1},
            {0, 0, 1001, 1}, {0, 0, 1, 0}, {0, 0, 1, -1}, {0, 0, 1, 1001},
            {Integer.MIN_VALUE, Integer.MAX_VALUE, Integer.MAX_VALUE, Integer.MIN_VALUE}};
        for (int[] row : wrong) {
            CHECK.due("4 wrong purity", x.purity(row[0], row[1], row[2], row[3]), -1);
        }
        CHECK.due("4 above 1000, below 1", x.purity(0, 0, 1000, 1), 0);
        CHECK.due("4 above 0, below 1000", x.purity(0, 0, 0, 1000), 1);
    }

    private static void purityIsKept() {
        CHECK.due("4 just enough", sumWithPurity(2, 3, 4, 2), 4);
        CHECK.due("4 one too few", sumWithPurity(2, 3, 4, 3), NO_SUM);
        CHECK.due("4 an empty port", sumWithPurity(1000, 1, 0, 0), 0);
        CHECK.due("4 above 0", sumWithPurity(0, 1, 0, 9), 0);
        CHECK.due("4 all of it", sumWithPurity(1, 1, 9, 0), 9);
        CHECK.due("4 more than all of it", sumWithPurity(3, 2, 9, 0), NO_SUM);
        CHECK.due("4 great numbers", sumWithPurity(999, 1000, 999000, 1000), 999000);
        CHECK.due("4 great numbers, too few", sumWithPurity(1000, 1000, 999000, 1000), NO_SUM);
    }

    /** Of port 1: grams of kind 2 and of kind 0; grams of kind 2 elsewhere do not count. */
    private static long sumWithPurity(int above, int below, int grams, int others) {
        SettingSearch x = new SettingSearch();
        x.machine(1);
        x.worth(1, 2, 1);
        x.purity(1, 2, above, below);
        x.feed(1000000);
        x.next();
        x.answer(1, 2, grams);
        x.answer(1, 0, others);
        x.answer(0, 2, 0);
        x.answer(2, 0, 0);
        x.next();
        return x.sum();
    }

    private static void mostIsKept() {
        CHECK.due("5 as much", standsWithMost(7, 7), true);
        CHECK.due("5 one more", standsWithMost(7, 8), false);
        CHECK.due("5 most 0, load 0", standsWithMost(0, 0), true);
        CHECK.due("5 most 0, load 1", standsWithMost(0, 1), false);
        CHECK.due("5 none", standsWithMost(-1, 1000000), true);
        CHECK.due("5 most 1000000", standsWithMost(1000000, 1000000), true);
    }

    private static boolean standsWithMost(int most, int load) {
        SettingSearch x = new SettingSearch();
        x.machine(1);
        x.machine(1);
        x.most(1, 3);
        CHECK.due("5 most(1, " + most + ")", x.most(1, most), true);
        x.feed(1);
        x.next();
        x.load(0, 1000000);
        x.load(1, load);
        x.next();
        return x.sum() == 0;
    }

    private static void mostRefuses() {
        SettingSearch x = new SettingSearch();
        x.machine(1);
        x.most(0, 5);
        CHECK.due("5 v -2", x.most(0, -2), false);
        CHECK.due("5 v 1000001", x.most(0, 1000001), false);
        CHECK.due("5 v MIN", x.most(0, Integer.MIN_VALUE), false);
        CHECK.due("5 machine 1", x.most(1, 5), false);
        CHECK.due("5 machine -1", x.most(-1, 5), false);
        CHECK.due("5 machine MAX", x.most(Integer.MAX_VALUE, 5), false);
        x.feed(1);
        x.next();
        x.load(0, 6);
        x.next();
        CHECK.due("5 it is still 5", x.sum(), NO_SUM);
    }

    private static void goingSearchRefuses() {
        SettingSearch x = new SettingSearch();
        x.machine(2);
        x.worth(0, 0, 3);
        x.feed(10);
        refusals(x);
        x.next();
        x.answer(0, 0, 4);
        refusals(x);
        x.next();
        refusals(x);
        CHECK.due("best while it goes on", x.best(0), 0);
        x.answer(0, 0, 5);
        x.load(0, 9);
        CHECK.due("it ends", x.next(), 0);
        CHECK.due("sum by what was told before", x.sum(), 15);
        CHECK.due("no rule came", x.room(0), 0);
        CHECK.due("worth after it", x.worth(0, 0, 4), true);
        CHECK.due("purity after it", x.purity(0, 0, 1, 1), 0);
        CHECK.due("most after it", x.most(0, 1), true);
        CHECK.due("take after it", x.take(), 1);
        CHECK.due("feed after it", x.feed(11), true);
    }

    private static void refusals(SettingSearch x) {
        CHECK.due("machine while it goes on", x.machine(2), -1);
        CHECK.due("worth while it goes on", x.worth(0, 0, 4), false);
        CHECK.due("purity while it goes on", x.purity(0, 0, 1, 1), -1);
        CHECK.due("most while it goes on", x.most(0, 1), false);
        CHECK.due("feed while it goes on", x.feed(10), false);
        CHECK.due("another feed while it goes on", x.feed(11), false);
        CHECK.due("take while it goes on", x.take(), -1);
        CHECK.due("proved while it goes on", x.proved(), false);
        CHECK.due("bound while it goes on", x.bound(), 30);
    }
}
