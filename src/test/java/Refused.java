import java.util.function.Supplier;
import java.util.function.ToIntFunction;

/** Holds that a call which answers an error or NONE leaves everything as it was. */
final class Refused {
    private static final int MORE_UNDOS_THAN_STATES = 5;

    private Refused() {
    }

    static void is(String call, Supplier<VotedLabels> maker, ToIntFunction<VotedLabels> refused, int want) {
        Due.is(call, refused.applyAsInt(maker.get()), want);
        Supplier<VotedLabels> with = () -> {
            VotedLabels x = maker.get();
            refused.applyAsInt(x);
            return x;
        };
        Told.alike("behind " + call, with, maker);
        for (int undos = 1; undos <= MORE_UNDOS_THAN_STATES; undos++) {
            int times = undos;
            Told.alike("behind " + call + ", undone " + undos, () -> undone(with.get(), times),
                    () -> undone(maker.get(), times));
        }
        Told.alike("behind " + call + ", restored", () -> restored(with.get()), () -> restored(maker.get()));
        Told.alike("the text behind " + call, () -> labelled(with.get()), () -> labelled(maker.get()));
    }

    private static VotedLabels undone(VotedLabels x, int times) {
        for (int i = 0; i < times; i++) {
            x.undo();
        }
        return x;
    }

    private static VotedLabels restored(VotedLabels x) {
        x.restore();
        return x;
    }

    /** A label shows the text, and a rewrite the next number. */
    private static VotedLabels labelled(VotedLabels x) {
        x.setLimit(2, 15);
        x.label(2, 1);
        x.rewrite(8, 2, 2);
        return x;
    }
}
