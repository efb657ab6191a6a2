import java.util.function.ToLongFunction;

/** One call that can be refused, to be made on several objects; a boolean answer counts 1 or 0. */
final class Call {
    final String name;
    final long refusal;
    private final ToLongFunction<SettingSearch> made;

    private Call(String name, long refusal, ToLongFunction<SettingSearch> made) {
        this.name = name;
        this.refusal = refusal;
        this.made = made;
    }

    long on(SettingSearch x) {
        return made.applyAsLong(x);
    }

    static Call machine(int settings) {
        return new Call("machine(" + settings + ")", -1, x -> x.machine(settings));
    }

    static Call worth(int port, int kind, int cents) {
        return new Call("worth(" + port + ", " + kind + ", " + cents + ")", 0,
                x -> x.worth(port, kind, cents) ? 1 : 0);
    }

    static Call purity(int port, int kind, int above, int below) {
        return new Call("purity(" + port + ", " + kind + ", " + above + ", " + below + ")", -1,
                x -> x.purity(port, kind, above, below));
    }

    static Call most(int machine, int v) {
        return new Call("most(" + machine + ", " + v + ")", 0, x -> x.most(machine, v) ? 1 : 0);
    }

    static Call feed(long grams) {
        return new Call("feed(" + grams + ")", 0, x -> x.feed(grams) ? 1 : 0);
    }

    static Call next() {
        return new Call("next()", -1, SettingSearch::next);
    }

    static Call answer(int port, int kind, long grams) {
        return new Call("answer(" + port + ", " + kind + ", " + grams + ")", 0,
                x -> x.answer(port, kind, grams) ? 1 : 0);
    }

    static Call load(int machine, int v) {
        return new Call("load(" + machine + ", " + v + ")", 0, x -> x.load(machine, v) ? 1 : 0);
    }

    static Call take() {
        return new Call("take()", -1, SettingSearch::take);
    }
}
