import java.util.Arrays;

/** Settings of machines, searched for the best worth. */
public final class SettingSearch {
    public static final int NONE = -1;

    private static final int MACHINES = 5;
    private static final int SETTINGS = 4;
    private static final int VECTORS = 64;
    private static final int PORTS = 3;
    private static final int KINDS = 3;
    private static final int PLACES = PORTS * KINDS;
    private static final int CENTS = 1000;
    private static final int PURITIES = 4;
    private static final int RULES = PURITIES + MACHINES;
    private static final int SHARE = 1000;
    private static final int LOAD = 1000000;
    private static final long GRAMS = 1000000L;
    private static final int FEEDS = 4;

    private final Machines machines;
    private final Rules rules;
    private final int[] cents;
    private final Feeds feeds;
    private final Search search;
    private final int[] keptRules;

    public SettingSearch() {
        machines = new Machines();
        rules = new Rules();
        cents = new int[PLACES];
        feeds = new Feeds();
        search = new Search();
        keptRules = new int[VECTORS];
    }

    public int machine(int settings) {
        if (search.going || !machines.add(settings)) {
            return NONE;
        }
        feeds.forget();
        search.forget();
        return machines.count - 1;
    }

    public boolean worth(int port, int kind, int cents) {
        int place = placeOf(port, kind);
        if (search.going || place == NONE || cents < -CENTS || cents > CENTS) {
            return false;
        }
        this.cents[place] = cents;
        return true;
    }

    public int purity(int port, int kind, int above, int below) {
        if (search.going || placeOf(port, kind) == NONE) {
            return NONE;
        }
        return rules.addPurity(port, kind, above, below);
    }

    public boolean most(int machine, int v) {
        if (search.going || !machines.has(machine) || v < NONE || v > LOAD) {
            return false;
        }
        rules.limits[machine] = v;
        return true;
    }

    public boolean feed(long grams) {
        if (search.going || grams < 1 || grams > GRAMS || machines.count == 0) {
            return false;
        }
        Answers answers = feeds.findOrOpen(grams);
        if (answers == null) {
            return false;
        }
        search.begin(answers, machines);
        return true;
    }

    public int next() {
        Answers answers = search.answers;
        if (!search.going || answers == null) {
            return NONE;
        }
        if (search.asked != NONE) {
            answers.keep(search.asked);
            search.asked = NONE;
        }
        return goOn(answers);
    }

    public int asked(int machine) {
        return machines.settingIn(search.asked, machine);
    }

    public boolean answer(int port, int kind, long grams) {
        Answers answers = search.answers;
        int place = placeOf(port, kind);
        if (search.asked == NONE || answers == null || place == NONE) {
            return false;
        }
        return answers.tellGrams(search.asked, place, grams);
    }

    public boolean load(int machine, int v) {
        Answers answers = search.answers;
        if (search.asked == NONE || answers == null || !machines.has(machine)) {
            return false;
        }
        return answers.tellLoad(search.asked, machine, v);
    }

    public int best(int machine) {
        return machines.settingIn(search.best, machine);
    }

    public long sum() {
        return search.bestWorth;
    }

    public long bound() {
        Answers answers = search.answers;
        return answers == null ? NONE : boundOf(answers);
    }

    public boolean proved() {
        return search.answers != null && !search.going;
    }

    public int changes() {
        return search.best == NONE ? NONE : machines.changesOf(search.best);
    }

    public int take() {
        if (search.going || search.best == NONE) {
            return NONE;
        }
        int changed = machines.changesOf(search.best);
        machines.become(search.best);
        return changed;
    }

    public int kept(long grams) {
        Answers answers = feeds.find(grams);
        return answers == null ? 0 : answers.count;
    }

    public int clash(int k) {
        Answers answers = search.answers;
        if (search.going || answers == null) {
            return NONE;
        }
        return numberAt(fewestClashing(answers), k);
    }

    public long room(int machine) {
        Answers answers = search.answers;
        if (search.going || answers == null || !machines.has(machine)) {
            return Long.MIN_VALUE;
        }
        int told = rules.told();
        long standing = greatestWorth(answers, told);
        if (standing == Long.MIN_VALUE) {
            return Long.MIN_VALUE;
        }
        return greatestWorth(answers, told & ~(1 << (PURITIES + machine))) - standing;
    }

    private static int placeOf(int port, int kind) {
        if (port < 0 || port >= PORTS || kind < 0 || kind >= KINDS) {
            return NONE;
        }
        return port * KINDS + kind;
    }

    /** Walks the order until a vector is unknown (1) or the search has ended (0). */
    private int goOn(Answers answers) {
        long bound = boundOf(answers);
        for (int at = search.at; at < search.length && search.bestWorth != bound; at++) {
            int vector = search.order[at];
            if (!answers.knows(vector)) {
                answers.clearRow(vector);
                search.at = at;
                search.asked = vector;
                return 1;
            }
            weigh(answers, vector);
        }
        search.going = false;
        return 0;
    }

    /** Only a greater worth replaces the best: of equals the first in the order stays. */
    private void weigh(Answers answers, int vector) {
        if (rules.keptBy(answers, vector) != rules.told()) {
            return;
        }
        long worth = answers.worthBy(vector, cents);
        if (search.best == NONE || worth > search.bestWorth) {
            search.best = vector;
            search.bestWorth = worth;
        }
    }

    private long boundOf(Answers answers) {
        int greatest = 0;
        for (int place = 0; place < PLACES; place++) {
            greatest = Math.max(greatest, cents[place]);
        }
        return answers.feed * greatest;
    }

    /** The greatest worth of the answers that keep all rules of the set; Long.MIN_VALUE of none. */
    private long greatestWorth(Answers answers, int set) {
        long greatest = Long.MIN_VALUE;
        for (int vector = 0; vector < VECTORS; vector++) {
            if (answers.knows(vector) && (rules.keptBy(answers, vector) & set) == set) {
                greatest = Math.max(greatest, answers.worthBy(vector, cents));
            }
        }
        return greatest;
    }

    /**
     * The fewest told rules that no answer keeps together, rule r as bit r; 0 when there are none.
     * Sets are tried from the least on, so that of as few rules the least set is found first.
     */
    private int fewestClashing(Answers answers) {
        int told = rules.told();
        int rows = listKeptRules(answers);
        if (!noneKeeps(told, rows)) {
            return 0;
        }
        int fewest = RULES + 1;
        int found = 0;
        for (int set = 1; set < 1 << RULES; set++) {
            if ((set & told) == set && Integer.bitCount(set) < fewest && noneKeeps(set, rows)) {
                fewest = Integer.bitCount(set);
                found = set;
            }
        }
        return found;
    }

    private int listKeptRules(Answers answers) {
        int rows = 0;
        for (int vector = 0; vector < VECTORS; vector++) {
            if (answers.knows(vector)) {
                keptRules[rows] = rules.keptBy(answers, vector);
                rows++;
            }
        }
        return rows;
    }

    private boolean noneKeeps(int set, int rows) {
        for (int row = 0; row < rows; row++) {
            if ((keptRules[row] & set) == set) {
                return false;
            }
        }
        return true;
    }

    private static int numberAt(int set, int k) {
        int passed = 0;
        for (int rule = 0; rule < RULES; rule++) {
            if ((set & (1 << rule)) != 0) {
                if (passed == k) {
                    return rule;
                }
                passed++;
            }
        }
        return NONE;
    }

    /** The machines, and all vectors of their settings, numbered as machine 0's setting goes first. */
    private static final class Machines {
        private int count;
        private int vectors;
        private final int[] settings;
        private final int[] current;
        private final int[] table;

        Machines() {
            vectors = 1;
            settings = new int[MACHINES];
            current = new int[MACHINES];
            table = new int[VECTORS * MACHINES];
        }

        boolean has(int machine) {
            return machine >= 0 && machine < count;
        }

        boolean add(int more) {
            if (count >= MACHINES || more < 1 || more > SETTINGS || vectors * more > VECTORS) {
                return false;
            }
            settings[count] = more;
            current[count] = 0;
            count++;
            vectors *= more;
            fillTable();
            return true;
        }

        /** Each vector is the one before it, counted on by one at the last machine. */
        private void fillTable() {
            for (int vector = 1; vector < vectors; vector++) {
                int carry = 1;
                for (int machine = count - 1; machine >= 0; machine--) {
                    int setting = table[(vector - 1) * MACHINES + machine] + carry;
                    carry = setting == settings[machine] ? 1 : 0;
                    table[vector * MACHINES + machine] = carry == 1 ? 0 : setting;
                }
            }
        }

        int settingIn(int vector, int machine) {
            if (vector < 0 || vector >= vectors || !has(machine)) {
                return NONE;
            }
            return table[vector * MACHINES + machine];
        }

        int changesOf(int vector) {
            int changes = 0;
            for (int machine = 0; machine < count; machine++) {
                if (settingIn(vector, machine) != current[machine]) {
                    changes++;
                }
            }
            return changes;
        }

        void become(int vector) {
            for (int machine = 0; machine < count; machine++) {
                current[machine] = settingIn(vector, machine);
            }
        }
    }

    /** The purities, and the mosts of the machines; a set of rules has rule r as bit r. */
    private static final class Rules {
        private int purities;
        private final int[] ports;
        private final int[] kinds;
        private final int[] above;
        private final int[] below;
        private final int[] limits;

        Rules() {
            ports = new int[PURITIES];
            kinds = new int[PURITIES];
            above = new int[PURITIES];
            below = new int[PURITIES];
            limits = new int[MACHINES];
            Arrays.fill(limits, NONE);
        }

        int addPurity(int port, int kind, int over, int under) {
            if (purities >= PURITIES || over < 0 || over > SHARE || under < 1 || under > SHARE) {
                return NONE;
            }
            ports[purities] = port;
            kinds[purities] = kind;
            above[purities] = over;
            below[purities] = under;
            purities++;
            return purities - 1;
        }

        int told() {
            int told = (1 << purities) - 1;
            for (int machine = 0; machine < MACHINES; machine++) {
                if (limits[machine] != NONE) {
                    told |= 1 << (PURITIES + machine);
                }
            }
            return told;
        }

        /** The told rules that a vector's answer keeps. */
        int keptBy(Answers answers, int vector) {
            int set = 0;
            for (int rule = 0; rule < purities; rule++) {
                if (isPure(answers, vector, rule)) {
                    set |= 1 << rule;
                }
            }
            for (int machine = 0; machine < MACHINES; machine++) {
                int limit = limits[machine];
                if (limit != NONE && answers.loadOf(vector, machine) <= limit) {
                    set |= 1 << (PURITIES + machine);
                }
            }
            return set;
        }

        private boolean isPure(Answers answers, int vector, int rule) {
            long all = 0;
            for (int kind = 0; kind < KINDS; kind++) {
                all += answers.gramsAt(vector, placeOf(ports[rule], kind));
            }
            long some = answers.gramsAt(vector, placeOf(ports[rule], kinds[rule]));
            return some * below[rule] >= all * above[rule];
        }
    }

    /** The answers of one feed, a row for each vector; a row counts once it is known. */
    private static final class Answers {
        private long feed;
        private int count;
        private final boolean[] known;
        private final int[] grams;
        private final int[] loads;

        Answers() {
            known = new boolean[VECTORS];
            grams = new int[VECTORS * PLACES];
            loads = new int[VECTORS * MACHINES];
        }

        void open(long amount) {
            feed = amount;
            count = 0;
            for (int vector = 0; vector < VECTORS; vector++) {
                known[vector] = false;
            }
        }

        void clearRow(int vector) {
            if (!hasRow(vector)) {
                return;
            }
            for (int place = 0; place < PLACES; place++) {
                grams[vector * PLACES + place] = 0;
            }
            for (int machine = 0; machine < MACHINES; machine++) {
                loads[vector * MACHINES + machine] = 0;
            }
        }

        boolean knows(int vector) {
            return hasRow(vector) && known[vector];
        }

        void keep(int vector) {
            if (hasRow(vector) && !known[vector]) {
                known[vector] = true;
                count++;
            }
        }

        /** Told anew, grams take the place of what was told there before. */
        boolean tellGrams(int vector, int place, long amount) {
            if (!hasRow(vector) || place < 0 || place >= PLACES || amount < 0 || amount > feed) {
                return false;
            }
            long others = 0;
            for (int other = 0; other < PLACES; other++) {
                if (other != place) {
                    others += grams[vector * PLACES + other];
                }
            }
            if (others + amount > feed) {
                return false;
            }
            grams[vector * PLACES + place] = (int) amount;
            return true;
        }

        boolean tellLoad(int vector, int machine, int v) {
            if (!hasRow(vector) || machine < 0 || machine >= MACHINES || v < 0 || v > LOAD) {
                return false;
            }
            loads[vector * MACHINES + machine] = v;
            return true;
        }

        int gramsAt(int vector, int place) {
            if (!hasRow(vector) || place < 0 || place >= PLACES) {
                return 0;
            }
            return grams[vector * PLACES + place];
        }

        int loadOf(int vector, int machine) {
            if (!hasRow(vector) || machine < 0 || machine >= MACHINES) {
                return 0;
            }
            return loads[vector * MACHINES + machine];
        }

        long worthBy(int vector, int[] cents) {
            long worth = 0;
            for (int place = 0; place < PLACES && place < cents.length; place++) {
                worth += (long) gramsAt(vector, place) * cents[place];
            }
            return worth;
        }

        private static boolean hasRow(int vector) {
            return vector >= 0 && vector < VECTORS;
        }
    }

    /** The answers by feeds; made once and opened again after they were forgotten. */
    private static final class Feeds {
        private int used;
        private final Answers[] rows;

        Feeds() {
            rows = new Answers[FEEDS];
            for (int row = 0; row < FEEDS; row++) {
                rows[row] = new Answers();
            }
        }

        void forget() {
            used = 0;
        }

        Answers find(long grams) {
            for (int row = 0; row < used; row++) {
                if (rows[row].feed == grams) {
                    return rows[row];
                }
            }
            return null;
        }

        /** A search that has begun always comes to keep an answer, so its feed may count at once. */
        Answers findOrOpen(long grams) {
            Answers answers = find(grams);
            if (answers != null || used >= FEEDS) {
                return answers;
            }
            answers = rows[used];
            used++;
            answers.open(grams);
            return answers;
        }
    }

    /** The latest search; without answers nothing is searched. */
    private static final class Search {
        private Answers answers;
        private boolean going;
        private int asked;
        private int best;
        private long bestWorth;
        private int at;
        private int length;
        private final int[] order;

        Search() {
            order = new int[VECTORS];
            forget();
        }

        void forget() {
            answers = null;
            going = false;
            asked = NONE;
            best = NONE;
            bestWorth = Long.MIN_VALUE;
            at = 0;
            length = 0;
        }

        /** The current vector stays while a search goes on, so the order is laid out once. */
        void begin(Answers ofFeed, Machines machines) {
            forget();
            answers = ofFeed;
            going = true;
            for (int changes = 0; changes <= machines.count; changes++) {
                for (int vector = 0; vector < machines.vectors; vector++) {
                    if (length < VECTORS && machines.changesOf(vector) == changes) {
                        order[length] = vector;
                        length++;
                    }
                }
            }
        }
    }
}
