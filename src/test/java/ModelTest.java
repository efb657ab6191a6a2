import java.util.Random;

/** Long runs of calls, drawn from fixed seeds, on the class and on the model side by side. */
public final class ModelTest {
    private static final Check CHECK = new Check("ModelTest");
    private static final int RUNS = 3000;
    private static final int CALLS = 512;
    private static final int[] ODD = {-1, -2, 3, 5, 9, 1000, 1001, -1000, -1001, 1000000, 1000001,
        Integer.MAX_VALUE, Integer.MIN_VALUE};
    private static final long[] ODD_GRAMS = {0, -1, 1000000, 1000001, 1L << 32, (1L << 32) + 5,
        Long.MAX_VALUE, Long.MIN_VALUE};

    private final Random random;
    private final String run;
    private final SettingSearch real = new SettingSearch();
    private final Model model = new Model();
    private int calls = 0;
    private int machines = 0;
    private int searches = 0;

    private ModelTest(int seed) {
        random = new Random(seed);
        run = "run " + seed + " ";
    }

    public static void main(String[] args) {
        int searches = 0;
        for (int seed = 0; seed < RUNS; seed++) {
            ModelTest test = new ModelTest(seed);
            test.whole();
            searches += test.searches;
        }
        CHECK.due("enough searches ended", searches > RUNS * 4, true);
        CHECK.finish();
    }

    private void whole() {
        int more = random.nextInt(6);
        for (int i = 0; i < more; i++) {
            machine();
        }
        while (calls < CALLS - 60) {
            step();
            if (random.nextInt(12) == 0) {
                look();
            }
        }
    }

    private void due(String call, long got, long want) {
        calls++;
        CHECK.due(run + "call " + calls + " " + call, got, want);
    }

    private void due(String call, boolean got, boolean want) {
        due(call, got ? 1 : 0, want ? 1 : 0);
    }

    private int number(int below) {
        return random.nextInt(40) == 0 ? ODD[random.nextInt(ODD.length)] : random.nextInt(below);
    }

    private void step() {
        switch (random.nextInt(24)) {
            case 0:
                setUp();
                break;
            case 1:
                feed();
                break;
            case 2:
                due("take", real.take(), model.take());
                break;
            default:
                search();
                break;
        }
    }

    private void setUp() {
        switch (random.nextInt(8)) {
            case 0:
                if (random.nextInt(3) == 0) {
                    machine();
                }
                break;
            case 1:
            case 2:
            case 3:
                worth();
                break;
            case 4:
                purity();
                break;
            default:
                most();
                break;
        }
    }

    private void machine() {
        int settings = number(4) + (random.nextInt(10) == 0 ? 0 : 1);
        int number = model.machine(settings);
        due("machine(" + settings + ")", real.machine(settings), number);
        machines = Math.max(machines, number + 1);
    }

    private void worth() {
        int port = number(3);
        int kind = number(3);
        int cents = number(5) - random.nextInt(3);
        due("worth", real.worth(port, kind, cents), model.worth(port, kind, cents));
    }

    private void purity() {
        int port = number(3);
        int kind = number(3);
        int above = number(4);
        int below = number(6);
        due("purity", real.purity(port, kind, above, below), model.purity(port, kind, above, below));
    }

    private void most() {
        int machine = number(5);
        int v = number(6) - 1;
        due("most", real.most(machine, v), model.most(machine, v));
    }

    private void feed() {
        long grams = random.nextInt(20) == 0 ? ODD_GRAMS[random.nextInt(ODD_GRAMS.length)]
                : 5 + random.nextInt(6);
        due("feed(" + grams + ")", real.feed(grams), model.feed(grams));
    }

    private void search() {
        int turn = random.nextInt(10);
        if (turn < 4) {
            int went = model.next();
            searches += went == 0 ? 1 : 0;
            due("next", real.next(), went);
            if (went == 0) {
                look();
                setUp();
                setUp();
                look();
            }
            if (went != 1) {
                feed();
            }
        } else if (turn < 8) {
            int port = number(3);
            int kind = number(3);
            long grams = random.nextInt(40) == 0 ? ODD_GRAMS[random.nextInt(ODD_GRAMS.length)]
                    : random.nextInt(8);
            due("answer", real.answer(port, kind, grams), model.answer(port, kind, grams));
        } else {
            int machine = number(5);
            int v = number(6);
            due("load", real.load(machine, v), model.load(machine, v));
        }
    }

    private void look() {
        if (calls > CALLS - 40) {
            return;
        }
        due("sum", real.sum(), model.sum());
        due("bound", real.bound(), model.bound());
        due("proved", real.proved(), model.proved());
        due("changes", real.changes(), model.changes());
        long grams = 5 + random.nextInt(6);
        due("kept", real.kept(grams), model.kept(grams));
        for (int machine = 0; machine <= machines; machine++) {
            due("asked", real.asked(machine), model.asked(machine));
            due("best", real.best(machine), model.best(machine));
            due("room", real.room(machine), model.room(machine));
        }
        int rule = 0;
        for (int k = 0; k < 10 && rule != -1; k++) {
            rule = model.clash(k);
            due("clash(" + k + ")", real.clash(k), rule);
        }
        int odd = ODD[random.nextInt(ODD.length)];
        due("clash(" + odd + ")", real.clash(odd), model.clash(odd));
        due("room(" + odd + ")", real.room(odd), model.room(odd));
    }
}
