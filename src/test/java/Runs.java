import java.util.ArrayList;
import java.util.List;

/** Objects, arguments and runs of calls that several tests use; no object gets more than 512 calls. */
final class Runs {
    static final long NO_SUM = Long.MIN_VALUE;

    /** No ports and kinds; some of them would still be a place if both were counted as one number. */
    static final int[][] WRONG_PLACES = {{-1, 0}, {3, 0}, {0, -1}, {0, 3}, {2, 3}, {-1, 3}, {1, -1},
        {0, 8}, {3, -1}, {3, -9}, {Integer.MIN_VALUE, 0}, {Integer.MAX_VALUE, 0},
        {0, Integer.MIN_VALUE}, {0, Integer.MAX_VALUE}, {1 << 30, 0}, {1431655765, 1}};

    /** Numbers that no machine can have; some would be one after a wrap-around of 32. */
    static final int[] WRONG_MACHINES = {-1, 5, 27, 28, 32, -4, -32, Integer.MIN_VALUE, Integer.MAX_VALUE};

    private Runs() {
    }

    static SettingSearch machines(int... settings) {
        SettingSearch x = new SettingSearch();
        for (int count : settings) {
            x.machine(count);
        }
        return x;
    }

    /** Six vectors, 10 cents for a gram of kind 0 in port 0. */
    static SettingSearch twoByThree() {
        SettingSearch x = machines(2, 3);
        x.worth(0, 0, 10);
        return x;
    }

    static List<Integer> asked(SettingSearch x, int machines) {
        List<Integer> vector = new ArrayList<>();
        for (int machine = 0; machine < machines; machine++) {
            vector.add(x.asked(machine));
        }
        return vector;
    }

    static List<Integer> best(SettingSearch x, int machines) {
        List<Integer> vector = new ArrayList<>();
        for (int machine = 0; machine < machines; machine++) {
            vector.add(x.best(machine));
        }
        return vector;
    }

    /**
     * A whole search in which each answer that is asked for has the same grams of kind 0 in port 0;
     * to go through all vectors, the bound must be out of reach of these grams.
     */
    static int searchAll(SettingSearch x, long feed, long grams) {
        int asked = 0;
        x.feed(feed);
        for (int call = 0; call < 65 && x.next() == 1; call++) {
            x.answer(0, 0, grams);
            asked++;
        }
        return asked;
    }

    /** A search of a new feed that ends at its n-th vector from 0 on: the first with all in the dearest place. */
    static void endAt(SettingSearch x, long feed, int n) {
        x.feed(feed);
        for (int call = 0; call <= n; call++) {
            x.next();
        }
        x.answer(0, 0, feed);
        x.next();
    }

    /** A search of a new feed with one number told as grams of kind 0 in port 0 for each vector. */
    static void tell(SettingSearch x, long feed, long... grams) {
        x.feed(feed);
        for (long some : grams) {
            x.next();
            x.answer(0, 0, some);
        }
        x.next();
    }
}
