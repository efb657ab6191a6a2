/** Runs of calls that several tests use. */
final class Runs {
    private Runs() {
    }

    /**
     * A whole search in which each answer that is asked for has the same grams of kind 0 in port 0;
     * to go through all vectors, the bound must be out of reach of these grams.
     */
    static int searchAll(SettingSearch x, long feed, long grams) {
        int asked = 0;
        x.feed(feed);
        for (int call = 0; call < 65 && x.next() == 1; call++) {
            x.answer(0, 0, grams);
            asked++;
        }
        return asked;
    }
}
