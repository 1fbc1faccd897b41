import java.util.function.Consumer;
import java.util.function.Supplier;

/**
 * A refused call changes nothing: two objects are made alike, one of them gets the call, and all
 * that can be seen of them is compared.
 */
final class Refused {
    private Refused() {
    }

    static void throwing(String what, Class<? extends RuntimeException> due, Supplier<StreamFilters> maker,
            Consumer<StreamFilters> call) {
        for (boolean kept : new boolean[] {false, true}) {
            StreamFilters x = maker.get();
            Check.fails(what, due, () -> {
                call.accept(x);
                return 0;
            });
            alike(what + ": nothing changed", x, maker.get(), kept);
        }
    }

    static void answeringNone(String what, Supplier<StreamFilters> maker, Check.Answer call) {
        for (boolean kept : new boolean[] {false, true}) {
            StreamFilters x = maker.get();
            Check.same(what, call.of(x), StreamFilters.NONE);
            alike(what + ": nothing changed", x, maker.get(), kept);
        }
    }

    /** The result and its fault, the chain and the budget at work, the budget, the chain's length, the row. */
    private static void alike(String what, StreamFilters x, StreamFilters y, boolean kept) {
        sameResult(what + ", the result", x, y);
        if (kept) {
            Check.same(what + ", keep()", keep(x), keep(y));
        }
        Check.same(what + ", decode()", x.decode(), y.decode());
        sameResult(what + ", another decoding", x, y);
        Check.same(what + ", the budget", x.budget(65536), y.budget(65536));
        Check.same(what + ", how many filters", x.drop(), y.drop());
        Check.same(what + ", how long the row is", x.decode(), y.decode());
        sameResult(what + ", the row", x, y);
    }

    private static int keep(StreamFilters x) {
        try {
            return x.keep();
        } catch (IllegalStateException e) {
            return -2;
        }
    }

    private static void sameResult(String what, StreamFilters x, StreamFilters y) {
        for (int k = 0; k < 3; k++) {
            Check.same(what + ": fault(" + k + ")", x.fault(k), y.fault(k));
        }
        for (int i = 0; i < 60; i++) {
            Check.same(what + ": at(" + i + ")", x.at(i), y.at(i));
        }
        for (int i : new int[] {16363, 16364, 16365, 16383, 16384, 65535, 65536}) {
            Check.same(what + ": at(" + i + ")", x.at(i), y.at(i));
        }
    }
}
