/** Promises 1 to 12: the calls themselves, their edges and their exceptions. */
final class CallsTest {
    private static final int NONE = StreamFilters.NONE;

    private CallsTest() {
    }

    public static void main(String[] args) {
        newObject();
        feed();
        put();
        cut();
        filter();
        predict();
        drop();
        budget();
        decode();
        at();
        fault();
        keep();
        Check.end();
    }

    private static void newObject() {
        StreamFilters x = new StreamFilters();
        Check.same("new: cut(0)", x.cut(0), 0);
        Check.same("new: drop()", x.drop(), 0);
        Check.same("new: at(0)", x.at(0), NONE);
        Rows.hasNoFault("new", x);
        Check.same("new: budget(5)", x.budget(5), 65536);
        Check.same("new: keep()", x.keep(), 0);
        Check.same("new: decode()", x.decode(), 0);
        Check.same("two objects: feed", new StreamFilters().feed(1, 2, 3, 4, 5), 20);
        Check.same("two objects: cut(0)", x.cut(0), 0);
    }

    private static void feed() {
        StreamFilters x = new StreamFilters();
        Check.same("feed", x.feed(0x01020304, 0x80FF7F00, -1, 0, 0x0A0B0C0D), 20);
        Rows.decodesTo("feed", x, Rows.ofDigits("01020304 80FF7F00 FFFFFFFF 00000000 0A0B0C0D"));
        Check.same("feed: the second", x.feed(0, 0, 0, 0, 9), 40);
        x.cut(33);
        Check.same("feed: behind a cut", x.feed(5, 6, 7, 8, 9), 53);

        // 129 bytes of input give 16,365 of output, 19 below what a row can have
        StreamFilters y = longRow(16365);
        Check.same("feed: one too many", y.feed(1, 2, 3, 4, 5), NONE);
        Check.same("feed: nothing happened", y.cut(16365), 0);
        y.cut(16364);
        Check.same("feed: just as many", y.feed(1, 2, 3, 4, 0x55667788), 16384);
        Check.same("feed: full", y.feed(1, 2, 3, 4, 5), NONE);
        Check.same("feed: last byte", y.put(16383, 1), 0x88);
        Check.same("feed: byte before what was fed", y.put(16363, 1), 7);
    }

    /** An object whose row has so many bytes 7, and no filters. */
    private static StreamFilters longRow(int many) {
        StreamFilters x = new StreamFilters();
        Rows.load(x, Streams.lengthsOfOne(7, many));
        x.filter(4, 0);
        Check.same("long row: decode()", x.decode(), many);
        Check.same("long row: keep()", x.keep(), many);
        x.drop();
        return x;
    }

    private static void put() {
        StreamFilters x = new StreamFilters();
        Check.fails("put: empty row", IndexOutOfBoundsException.class, () -> x.put(0, 1));
        x.feed(0x01020304, 0, 0, 0, 0xFE);
        Check.same("put(3, 255)", x.put(3, 255), 4);
        Check.same("put(3, 0)", x.put(3, 0), 255);
        Check.same("put(19, 1)", x.put(19, 1), 254);
        Check.fails("put(20, 1)", IndexOutOfBoundsException.class, () -> x.put(20, 1));
        Check.fails("put(-1, 1)", IndexOutOfBoundsException.class, () -> x.put(-1, 1));
        Check.fails("put(0, 256)", IllegalArgumentException.class, () -> x.put(0, 256));
        Check.fails("put(0, -1)", IllegalArgumentException.class, () -> x.put(0, -1));
        Check.fails("put: both wrong", IndexOutOfBoundsException.class, () -> x.put(20, 256));
        Check.fails("put: lowest number", IndexOutOfBoundsException.class, () -> x.put(Integer.MIN_VALUE, 0));
        Check.same("put: nothing changed", x.put(0, 1), 1);
        x.cut(3);
        Check.fails("put: behind a cut", IndexOutOfBoundsException.class, () -> x.put(3, 1));
    }

    private static void cut() {
        StreamFilters x = new StreamFilters();
        x.feed(0x01020304, 0, 0, 0, 5);
        Check.same("cut(20)", x.cut(20), 0);
        Check.same("cut(most)", x.cut(Integer.MAX_VALUE), 0);
        Check.fails("cut(-1)", IllegalArgumentException.class, () -> x.cut(-1));
        Check.fails("cut(lowest)", IllegalArgumentException.class, () -> x.cut(Integer.MIN_VALUE));
        Check.same("cut(2)", x.cut(2), 18);
        Rows.decodesTo("cut", x, Rows.of(1, 2));
        Check.same("cut(0)", x.cut(0), 2);
        Check.same("cut: result stays", x.at(1), 2);
    }

    private static void filter() {
        StreamFilters x = new StreamFilters();
        Check.fails("filter(-1, 0)", IllegalArgumentException.class, () -> x.filter(-1, 0));
        Check.fails("filter(5, 0)", IllegalArgumentException.class, () -> x.filter(5, 0));
        Check.fails("filter(1, 2)", IllegalArgumentException.class, () -> x.filter(1, 2));
        Check.fails("filter(3, -1)", IllegalArgumentException.class, () -> x.filter(3, -1));
        for (int i = 0; i < 8; i++) {
            Check.same("filter: how many", x.filter(i % 5, i % 2), i + 1);
        }
        Check.fails("filter: the ninth", IllegalStateException.class, () -> x.filter(0, 0));
        Check.fails("filter: the ninth, kind wrong", IllegalArgumentException.class, () -> x.filter(5, 0));
        Check.fails("filter: the ninth, early wrong", IllegalArgumentException.class, () -> x.filter(0, 2));
        Check.same("filter: drop()", x.drop(), 8);

        StreamFilters y = Rows.loaded(Rows.ofText("0301020304>"), 3);
        y.predict(12, 1, 8, 1);
        y.drop();
        y.filter(3, 0);
        Rows.decodesTo("filter: no predictor is left over", y, Rows.of(3, 1, 2, 3, 4));
    }

    private static void predict() {
        StreamFilters x = new StreamFilters();
        noPredictor(x, 0, 1, 8, 1);
        noPredictor(x, 3, 1, 8, 1);
        noPredictor(x, 9, 1, 8, 1);
        noPredictor(x, 16, 1, 8, 1);
        noPredictor(x, -1, 1, 8, 1);
        for (int predictor : new int[] {1, 2, 10, 11, 12, 13, 14, 15}) {
            noPredictor(x, predictor, 0, 8, 1);
            noPredictor(x, predictor, 9, 8, 1);
            noPredictor(x, predictor, 1, 0, 1);
            noPredictor(x, predictor, 1, 3, 1);
            noPredictor(x, predictor, 1, 32, 1);
            noPredictor(x, predictor, 1, 8, 0);
            noPredictor(x, predictor, 1, 8, 4097);
            Check.fails("predict: no filter", IllegalStateException.class,
                    () -> predicted(x, predictor, 8, 16, 4096));
        }
        x.filter(4, 0);
        for (int bits : new int[] {1, 2, 4, 8, 16}) {
            Check.same("predict", predicted(x, 2, 1, bits, 4096), 0);
            Check.same("predict", predicted(x, 15, 8, bits, 1), 0);
        }
        x.drop();
        Check.fails("predict: behind drop()", IllegalStateException.class, () -> predicted(x, 2, 1, 8, 1));

        StreamFilters y = Rows.loaded(Rows.ofText("01020304>"), 3);
        y.predict(2, 1, 8, 4);
        Rows.decodesTo("predict: 2", y, Rows.of(1, 3, 6, 10));
        noPredictor(y, 2, 1, 7, 4);
        Rows.decodesTo("predict: nothing changed", y, Rows.of(1, 3, 6, 10));
        y.predict(1, 1, 8, 4);
        Rows.decodesTo("predict: 1", y, Rows.of(1, 2, 3, 4));
        y.predict(2, 2, 8, 2);
        Rows.decodesTo("predict: again", y, Rows.of(1, 2, 4, 6));

        StreamFilters z = Rows.loaded(Rows.ofText("3031303230333034 3e>"), 3, 3);
        z.predict(2, 1, 8, 4);
        Rows.decodesTo("predict: of the last filter only", z, Rows.of(1, 3, 6, 10));
    }

    private static void noPredictor(StreamFilters x, int predictor, int colours, int bits, int columns) {
        Check.fails("predict(" + predictor + ", " + colours + ", " + bits + ", " + columns + ")",
                IllegalArgumentException.class, () -> predicted(x, predictor, colours, bits, columns));
    }

    private static long predicted(StreamFilters x, int predictor, int colours, int bits, int columns) {
        x.predict(predictor, colours, bits, columns);
        return 0;
    }

    private static void drop() {
        StreamFilters x = Rows.loaded(Rows.ofText("41>"), 3, 3, 3);
        Check.same("drop()", x.drop(), 3);
        Check.same("drop() again", x.drop(), 0);
        Rows.decodesTo("drop", x, Rows.ofText("41>"));
        Check.same("drop: filter", x.filter(3, 0), 1);
        Rows.decodesTo("drop: a new chain", x, Rows.of(0x41));
    }

    private static void budget() {
        StreamFilters x = Rows.loaded(Rows.ofText("41424344>"), 3);
        Check.fails("budget(-1)", IllegalArgumentException.class, () -> x.budget(-1));
        Check.fails("budget(65537)", IllegalArgumentException.class, () -> x.budget(65537));
        Check.same("budget(4)", x.budget(4), 65536);
        Rows.decodesTo("budget: just enough", x, Rows.ofText("ABCD"));
        Rows.hasNoFault("budget: just enough", x);
        Rows.decodesTo("budget: decode() does not use it up", x, Rows.ofText("ABCD"));
        Check.same("budget(5)", x.budget(5), 4);
        for (int i = 0; i < 3; i++) {
            Rows.decodesTo("budget: each decode() has all of it", x, Rows.ofText("ABCD"));
            Rows.hasNoFault("budget: each decode() has all of it", x);
        }
        Check.same("budget(3)", x.budget(3), 5);
        Rows.decodesTo("budget: one too few", x, Rows.ofText("ABC"));
        Rows.hasFault("budget: one too few", x, 0, StreamFilters.OVER, 8);
        Check.same("budget(0)", x.budget(0), 3);
        Rows.decodesTo("budget: none", x, Rows.of());
        Rows.hasFault("budget: none", x, 0, StreamFilters.OVER, 2);
        x.drop();
        Rows.decodesTo("budget: no filter gives anything", x, Rows.ofText("41424344>"));
        Check.same("budget(65536)", x.budget(65536), 0);

        // the first filter gives 5 bytes, the second one 2
        StreamFilters y = Rows.loaded(Rows.ofText("343134323E>"), 3, 3);
        y.budget(7);
        Rows.decodesTo("budget: of all filters", y, Rows.ofText("AB"));
        Rows.hasNoFault("budget: of all filters", y);
        y.budget(6);
        Rows.decodesTo("budget: of all filters, one too few", y, Rows.ofText("A"));
        Rows.hasFault("budget: of all filters, one too few", y, 1, StreamFilters.OVER, 4);
        y.budget(4);
        Rows.decodesTo("budget: the first filter", y, Rows.ofText("4142"));
        Rows.hasFault("budget: the first filter", y, 0, StreamFilters.OVER, 10);
    }

    private static void decode() {
        StreamFilters x = Rows.loaded(Rows.ofText("41>"));
        Rows.decodesTo("decode: no filters", x, Rows.ofText("41>"));
        x.put(0, 0x35);
        Check.same("decode: the result is no part of the row", x.at(0), 0x34);
        Rows.decodesTo("decode: again", x, Rows.ofText("51>"));

        int[] eight = {3, 3, 3, 3, 3, 3, 3, 3};
        byte[] row = Rows.ofText("!");
        for (int i = 0; i < 8; i++) {
            row = Streams.digitsOf(row);
        }
        StreamFilters y = Rows.loaded(row, eight);
        Rows.decodesTo("decode: eight filters", y, Rows.ofText("!"));
        Rows.hasNoFault("decode: eight filters", y);

        StreamFilters z = Rows.loaded(Rows.ofText("3432343G>"), 3, 3);
        Rows.decodesTo("decode: later filters do not run", z, Rows.ofText("424"));
        Rows.hasFault("decode: later filters do not run", z, 0, StreamFilters.SIGN, 8);
    }

    private static void at() {
        StreamFilters x = Rows.loaded(Rows.ofText("00FF80>"), 3);
        Check.same("at(0): before decode()", x.at(0), NONE);
        x.decode();
        Check.same("at(0)", x.at(0), 0);
        Check.same("at(1)", x.at(1), 255);
        Check.same("at(2)", x.at(2), 128);
        Check.same("at(3)", x.at(3), NONE);
        Check.same("at(-1)", x.at(-1), NONE);
        Check.same("at(lowest)", x.at(Integer.MIN_VALUE), NONE);
        Check.same("at(most)", x.at(Integer.MAX_VALUE), NONE);
        x.drop();
        x.cut(0);
        Check.same("at: of the last decoding", x.at(1), 255);
        x.decode();
        Check.same("at: a shorter result", x.at(0), NONE);
    }

    private static void fault() {
        StreamFilters x = Rows.loaded(Rows.ofText("41?"), 3);
        Rows.hasNoFault("fault: before decode()", x);
        x.decode();
        Rows.hasFault("fault", x, 0, StreamFilters.SIGN, 3);
        Check.same("fault(3)", x.fault(3), NONE);
        Check.same("fault(-1)", x.fault(-1), NONE);
        x.drop();
        Rows.hasFault("fault: of the last decoding", x, 0, StreamFilters.SIGN, 3);
        x.decode();
        Rows.hasNoFault("fault: a decoding without", x);
    }

    private static void keep() {
        StreamFilters x = Rows.loaded(Rows.ofText("3431>"), 3);
        Check.same("keep(): before decode()", x.keep(), 5);
        x.decode();
        Check.same("keep()", x.keep(), 2);
        Check.same("keep: the result stays", x.at(1), 0x31);
        x.put(0, 0x35);
        Check.same("keep: the row is no part of the result", x.at(0), 0x34);
        Check.same("keep() again", x.keep(), 2);
        x.drop();
        Rows.decodesTo("keep", x, Rows.ofText("41"));

        StreamFilters y = longRow(16384);
        Check.same("keep: the longest", y.keep(), 16384);

        StreamFilters z = Rows.loaded(Streams.lengthsOfOne(7, 16385), 4);
        z.decode();
        Check.fails("keep: too long", IllegalStateException.class, z::keep);
        Check.same("keep: nothing changed", z.at(16384), 7);
        Check.same("keep: the row stays", z.cut(0), Streams.lengthsOfOne(7, 16385).length);

        StreamFilters w = Rows.loaded(Rows.ofText("41"), 3);
        w.decode();
        w.keep();
        Check.same("keep: of a fault what came before it", w.cut(0), 1);
    }
}
