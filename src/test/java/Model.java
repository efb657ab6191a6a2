import java.util.ArrayList;
import java.util.Arrays;
import java.util.Comparator;
import java.util.LinkedHashMap;
import java.util.List;
import java.util.Map;

/** The document once more, written for plainness alone: lists, maps, and all worked out anew each time. */
final class Model {
    private static final class Reply {
        final long[][] grams = new long[3][3];
        final int[] loads = new int[5];
    }

    private final List<Integer> settings = new ArrayList<>();
    private List<Integer> current = new ArrayList<>();
    private final int[][] cents = new int[3][3];
    private final List<int[]> purities = new ArrayList<>();
    private final int[] mosts = {-1, -1, -1, -1, -1};
    private final Map<Long, Map<List<Integer>, Reply>> kept = new LinkedHashMap<>();
    private long feed = -1;
    private boolean going;
    private List<List<Integer>> ahead = new ArrayList<>();
    private Reply told;
    private List<Integer> best;
    private long bestWorth = Long.MIN_VALUE;

    int machine(int s) {
        int vectors = Vectors.all(settings).size();
        if (going || settings.size() == 5 || s < 1 || s > 4 || vectors * s > 64) {
            return -1;
        }
        settings.add(s);
        current = new ArrayList<>(current);
        current.add(0);
        kept.clear();
        feed = -1;
        best = null;
        bestWorth = Long.MIN_VALUE;
        return settings.size() - 1;
    }

    boolean worth(int port, int kind, int c) {
        if (going || !isPlace(port, kind) || Math.abs((long) c) > 1000) {
            return false;
        }
        cents[port][kind] = c;
        return true;
    }

    int purity(int port, int kind, int above, int below) {
        boolean such = isPlace(port, kind) && above >= 0 && above <= 1000 && below >= 1 && below <= 1000;
        if (going || !such || purities.size() == 4) {
            return -1;
        }
        purities.add(new int[] {port, kind, above, below});
        return purities.size() - 1;
    }

    boolean most(int machine, int v) {
        if (going || !isMachine(machine) || v < -1 || v > 1000000) {
            return false;
        }
        mosts[machine] = v;
        return true;
    }

    boolean feed(long grams) {
        long others = kept.entrySet().stream()
                .filter(entry -> entry.getKey() != grams && !entry.getValue().isEmpty()).count();
        if (going || grams < 1 || grams > 1000000 || settings.isEmpty() || others == 4) {
            return false;
        }
        feed = grams;
        kept.computeIfAbsent(grams, key -> new LinkedHashMap<>());
        going = true;
        ahead = Vectors.inOrder(settings, current);
        best = null;
        bestWorth = Long.MIN_VALUE;
        return true;
    }

    int next() {
        if (!going) {
            return -1;
        }
        Map<List<Integer>, Reply> replies = kept.get(feed);
        if (told != null) {
            replies.put(ahead.get(0), told);
            told = null;
        }
        while (!ahead.isEmpty() && !(best != null && bestWorth == bound())) {
            Reply reply = replies.get(ahead.get(0));
            if (reply == null) {
                told = new Reply();
                return 1;
            }
            if (rulesTold().stream().allMatch(rule -> keeps(reply, rule))
                    && (best == null || worthOf(reply) > bestWorth)) {
                best = ahead.get(0);
                bestWorth = worthOf(reply);
            }
            ahead.remove(0);
        }
        going = false;
        return 0;
    }

    int asked(int machine) {
        return told == null || !isMachine(machine) ? -1 : ahead.get(0).get(machine);
    }

    boolean answer(int port, int kind, long grams) {
        if (told == null || !isPlace(port, kind) || grams < 0 || grams > feed) {
            return false;
        }
        long before = told.grams[port][kind];
        told.grams[port][kind] = grams;
        if (Arrays.stream(told.grams).flatMapToLong(Arrays::stream).sum() > feed) {
            told.grams[port][kind] = before;
            return false;
        }
        return true;
    }

    boolean load(int machine, int v) {
        if (told == null || !isMachine(machine) || v < 0 || v > 1000000) {
            return false;
        }
        told.loads[machine] = v;
        return true;
    }

    int best(int machine) {
        return best == null || !isMachine(machine) ? -1 : best.get(machine);
    }

    long sum() {
        return bestWorth;
    }

    long bound() {
        int greatest = Arrays.stream(cents).flatMapToInt(Arrays::stream).max().getAsInt();
        return feed == -1 ? -1 : feed * Math.max(0, greatest);
    }

    boolean proved() {
        return feed != -1 && !going;
    }

    int changes() {
        return best == null ? -1 : Vectors.changes(best, current);
    }

    int take() {
        if (going || best == null) {
            return -1;
        }
        int changed = Vectors.changes(best, current);
        current = best;
        return changed;
    }

    int kept(long grams) {
        return kept.getOrDefault(grams, Map.of()).size();
    }

    int clash(int k) {
        if (!proved()) {
            return -1;
        }
        List<Integer> rules = rulesTold();
        if (kept.get(feed).values().stream().anyMatch(reply -> keepsAll(reply, rules))) {
            return -1;
        }
        List<List<Integer>> sets = new ArrayList<>();
        for (int choice = 0; choice < 1 << rules.size(); choice++) {
            List<Integer> set = new ArrayList<>();
            for (int i = 0; i < rules.size(); i++) {
                if ((choice >> i & 1) == 1) {
                    set.add(rules.get(i));
                }
            }
            sets.add(set);
        }
        sets.removeIf(set -> kept.get(feed).values().stream().anyMatch(reply -> keepsAll(reply, set)));
        sets.sort(Comparator.comparingInt((List<Integer> set) -> set.size())
                .thenComparing(set -> set.stream().mapToInt(rule -> 1 << rule).sum()));
        List<Integer> first = sets.get(0);
        return k >= 0 && k < first.size() ? first.get(k) : -1;
    }

    long room(int machine) {
        if (!proved() || !isMachine(machine)) {
            return Long.MIN_VALUE;
        }
        List<Integer> rules = rulesTold();
        long standing = greatest(rules);
        rules.remove(Integer.valueOf(4 + machine));
        return standing == Long.MIN_VALUE ? standing : greatest(rules) - standing;
    }

    private long greatest(List<Integer> rules) {
        return kept.get(feed).values().stream().filter(reply -> keepsAll(reply, rules))
                .mapToLong(this::worthOf).max().orElse(Long.MIN_VALUE);
    }

    private boolean isMachine(int machine) {
        return machine >= 0 && machine < settings.size();
    }

    private static boolean isPlace(int port, int kind) {
        return port >= 0 && port <= 2 && kind >= 0 && kind <= 2;
    }

    private long worthOf(Reply reply) {
        long worth = 0;
        for (int port = 0; port < 3; port++) {
            for (int kind = 0; kind < 3; kind++) {
                worth += reply.grams[port][kind] * cents[port][kind];
            }
        }
        return worth;
    }

    private List<Integer> rulesTold() {
        List<Integer> rules = new ArrayList<>();
        for (int rule = 0; rule < 9; rule++) {
            if (rule < 4 ? rule < purities.size() : mosts[rule - 4] != -1) {
                rules.add(rule);
            }
        }
        return rules;
    }

    private boolean keepsAll(Reply reply, List<Integer> rules) {
        return rules.stream().allMatch(rule -> keeps(reply, rule));
    }

    private boolean keeps(Reply reply, int rule) {
        if (rule >= 4) {
            return reply.loads[rule - 4] <= mosts[rule - 4];
        }
        int[] purity = purities.get(rule);
        long all = Arrays.stream(reply.grams[purity[0]]).sum();
        return reply.grams[purity[0]][purity[1]] * purity[3] >= purity[2] * all;
    }
}
