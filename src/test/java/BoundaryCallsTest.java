/**
 * The boundary cases that the sentences of promises 1 to 12 name: each has a method of its own, and the
 * sentence stands above it.
 */
final class BoundaryCallsTest {
    private static final int NONE = StreamFilters.NONE;
    private static final int LOWEST = Integer.MIN_VALUE;
    private static final int HIGHEST = Integer.MAX_VALUE;
    private static final int[] PREDICTORS = {1, 2, 10, 11, 12, 13, 14, 15};

    private BoundaryCallsTest() {
    }

    public static void main(String[] args) {
        newObjects();
        feeds();
        puts();
        cuts();
        filters();
        predicts();
        drops();
        budgets();
        decodes();
        ats();
        faults();
        keeps();
        Check.end();
    }

    /** With a row, a chain, a predictor, a budget, a result and a fault, all of them unlike those of a new object. */
    private static StreamFilters busy() {
        StreamFilters x = Rows.loaded(Rows.ofText("0241024202430244G"), 3);
        x.predict(12, 1, 8, 1);
        x.budget(7);
        x.decode();
        x.put(15, '5');
        return x;
    }

    /** Its chain is full, and its last filter has a predictor. */
    private static StreamFilters fullChain() {
        byte[] row = Rows.of(1, 2, 3);
        for (int i = 0; i < 8; i++) {
            row = Streams.lengthsOf(row);
        }
        StreamFilters x = Rows.loaded(row, 4, 4, 4, 4, 4, 4, 4, 4);
        x.predict(2, 1, 8, 3);
        return x;
    }

    /** So many bytes, the last one a 9 and the others 7. */
    private static byte[] sevens(int many) {
        byte[] bytes = Filtered.many(many, 7);
        bytes[many - 1] = 9;
        return bytes;
    }

    // Promise 1

    private static void newObjects() {
        newRow();
        newChain();
        newResult();
        newBudget();
        objectsOnTheirOwn();
    }

    /** "An empty row". */
    private static void newRow() {
        StreamFilters x = new StreamFilters();
        Check.same("a new row: cut(0)", x.cut(0), 0);
        Check.fails("a new row: put(0, 0)", IndexOutOfBoundsException.class, () -> x.put(0, 0));
        Check.same("a new row: decode()", x.decode(), 0);
        Check.same("a new row: keep()", x.keep(), 0);
        Check.same("a new row: feed", x.feed(1, 2, 3, 4, 5), 20);
    }

    /** "no filters". */
    private static void newChain() {
        StreamFilters x = new StreamFilters();
        Check.same("a new chain: drop()", x.drop(), 0);
        Check.fails("a new chain: predict", IllegalStateException.class, () -> predicted(x, 1, 1, 8, 1));
        x.feed(1, 2, 3, 4, 5);
        Check.same("a new chain: decode()", x.decode(), 20);
        Check.same("a new chain: the first filter", x.filter(0, 0), 1);
    }

    /** "no result". */
    private static void newResult() {
        StreamFilters x = new StreamFilters();
        for (int i : new int[] {LOWEST, -1, 0, 1, 65535, HIGHEST}) {
            Check.same("no result: at(" + i + ")", x.at(i), NONE);
        }
        Rows.hasNoFault("no result", x);
        x.feed(1, 2, 3, 4, 5);
        x.filter(3, 0);
        Check.same("no result, but a row: at(0)", x.at(0), NONE);
        Rows.hasNoFault("no result, but a row", x);
        Check.same("no result, but a row: keep()", x.keep(), 20);
    }

    /** "a BUDGET of 65,536". */
    private static void newBudget() {
        Check.same("a new budget", new StreamFilters().budget(0), 65536);
        StreamFilters x = Rows.loaded(Streams.lengthsOfOne(7, 65536), 4);
        Check.same("a new budget: decode() of all", x.decode(), 65536);
        Rows.hasNoFault("a new budget", x);
        StreamFilters y = Rows.loaded(Streams.lengthsOfOne(7, 65537), 4);
        Check.same("a new budget: decode() of one more", y.decode(), 65536);
        Check.same("a new budget: one more", y.fault(1), StreamFilters.OVER);
    }

    /** What one object is told the other does not know. */
    private static void objectsOnTheirOwn() {
        StreamFilters x = new StreamFilters();
        busy();
        Check.same("the other's row", x.cut(0), 0);
        Check.same("the other's chain", x.drop(), 0);
        Check.same("the other's result", x.at(0), NONE);
        Rows.hasNoFault("the other's fault", x);
        Check.same("the other's budget", x.budget(5), 65536);
    }

    // Promise 2

    private static void feeds() {
        feedHighestFirst();
        feedCounts();
        feedUpToTheLast();
        feedTooMany();
    }

    /** "Twenty bytes more in the row, the highest of a first". */
    private static void feedHighestFirst() {
        StreamFilters x = new StreamFilters();
        x.feed(LOWEST, HIGHEST, -1, 0, 0x01020304);
        Rows.decodesTo("feed: order", x, Rows.ofDigits("80000000 7FFFFFFF FFFFFFFF 00000000 01020304"));
        x.cut(0);
        x.feed(0x000000FF, 0x0000FF00, 0x00FF0000, 0xFF000000, 0x80808080);
        Rows.decodesTo("feed: each place", x, Rows.ofDigits("000000FF 0000FF00 00FF0000 FF000000 80808080"));
    }

    /** "how many it has": from an empty row on, behind a cut, and behind a row that is not a multiple of twenty. */
    private static void feedCounts() {
        StreamFilters x = new StreamFilters();
        for (int i = 1; i <= 5; i++) {
            Check.same("feed: the time " + i, x.feed(i, i, i, i, i), 20 * i);
        }
        x.cut(0);
        Check.same("feed: behind cut(0)", x.feed(1, 1, 1, 1, 1), 20);
        x.cut(1);
        Check.same("feed: behind cut(1)", x.feed(0x02030405, 1, 1, 1, 1), 21);
        Check.same("feed: what was there stays", x.put(0, 9), 0);
        Check.same("feed: the first new one", x.put(1, 9), 2);
    }

    /** "if there would be more than 16,384": 16,384 are not more. */
    private static void feedUpToTheLast() {
        StreamFilters x = Filtered.longRow(sevens(16364));
        Check.same("feed: up to 16,384", x.feed(1, 2, 3, 4, 0x05060708), 16384);
        Check.same("feed: the last one before", x.put(16363, 1), 9);
        Check.same("feed: the first new one", x.put(16364, 1), 0);
        Check.same("feed: the last new one", x.put(16383, 1), 8);
        x.cut(16363);
        Check.same("feed: up to 16,383", x.feed(1, 2, 3, 4, 5), 16383);
    }

    /** "NONE (and nothing happens) if there would be more than 16,384". */
    private static void feedTooMany() {
        for (int many : new int[] {16365, 16366, 16383, 16384}) {
            Refused.answeringNone("feed: behind " + many, () -> Filtered.longRow(sevens(many)),
                    x -> x.feed(-1, -1, -1, -1, -1));
        }
        Refused.answeringNone("feed: with a fault", () -> {
            StreamFilters x = Filtered.longRow(sevens(16384));
            x.filter(4, 0);
            x.budget(3);
            x.decode();
            return x;
        }, x -> x.feed(0, 0, 0, 0, 0));
        StreamFilters x = Filtered.longRow(sevens(16384));
        x.feed(1, 1, 1, 1, 1);
        x.cut(16364);
        Check.same("feed: there is room again", x.feed(1, 1, 1, 1, 1), 16384);
    }

    // Promise 3

    private static void puts() {
        putFirstAndLast();
        putIsUnsigned();
        putOutside();
        putNoByte();
        putBothWrong();
    }

    /** "A byte of the row becomes b: what it was": that one, and no other. */
    private static void putFirstAndLast() {
        StreamFilters x = new StreamFilters();
        x.feed(0x01020304, 0x05060708, 0x090A0B0C, 0x0D0E0F10, 0x11121314);
        Check.same("put: the first", x.put(0, 101), 1);
        Check.same("put: the last", x.put(19, 120), 20);
        Check.same("put: one between", x.put(9, 110), 10);
        Rows.decodesTo("put: no other", x, Rows.of(101, 2, 3, 4, 5, 6, 7, 8, 9, 110, 11, 12, 13, 14, 15, 16, 17, 18, 19,
                120));
        StreamFilters y = Filtered.longRow(sevens(16384));
        Check.same("put: the last of a full row", y.put(16383, 0), 9);
        Check.same("put: the last but one", y.put(16382, 0), 7);
    }

    /** "b is not 0 .. 255": 0 and 255 are bytes, and come back as they were. */
    private static void putIsUnsigned() {
        StreamFilters x = new StreamFilters();
        x.feed(0, 0, 0, 0, 0);
        int before = 0;
        for (int b : new int[] {255, 0, 128, 127, 254, 1}) {
            Check.same("put(7, " + b + ")", x.put(7, b), before);
            before = b;
        }
    }

    /** "IndexOutOfBounds: there is none such." */
    private static void putOutside() {
        for (int i : new int[] {LOWEST, -1, 17, 18, 20, 16384, HIGHEST}) {
            Refused.throwing("put(" + i + ", 1)", IndexOutOfBoundsException.class, BoundaryCallsTest::busy,
                    x -> x.put(i, 1));
        }
        Refused.throwing("put: an empty row", IndexOutOfBoundsException.class, StreamFilters::new, x -> x.put(0, 1));
        Refused.throwing("put: behind a cut", IndexOutOfBoundsException.class, () -> {
            StreamFilters x = busy();
            x.cut(5);
            return x;
        }, x -> x.put(5, 1));
        Refused.throwing("put: behind a full row", IndexOutOfBoundsException.class,
                () -> Filtered.longRow(sevens(16384)), x -> x.put(16384, 1));
        // the result is longer than the row, and has such bytes
        Refused.throwing("put: a byte of the result", IndexOutOfBoundsException.class, () -> {
            StreamFilters x = Rows.loaded(Rows.of(250, 9, 128), 4);
            x.decode();
            return x;
        }, x -> x.put(3, 1));
    }

    /** "IllegalArgument: b is not 0 .. 255." */
    private static void putNoByte() {
        for (int b : new int[] {LOWEST, -256, -1, 256, 511, HIGHEST}) {
            Refused.throwing("put(0, " + b + ")", IllegalArgumentException.class, BoundaryCallsTest::busy, x -> x.put(0, b));
            Refused.throwing("put(16, " + b + ")", IllegalArgumentException.class, BoundaryCallsTest::busy,
                    x -> x.put(16, b));
        }
    }

    /** "where it lists more than one exception, the first one wins": IndexOutOfBounds. */
    private static void putBothWrong() {
        for (int b : new int[] {-1, 256}) {
            Refused.throwing("put(17, " + b + ")", IndexOutOfBoundsException.class, BoundaryCallsTest::busy,
                    x -> x.put(17, b));
            Refused.throwing("put(-1, " + b + ")", IndexOutOfBoundsException.class, BoundaryCallsTest::busy,
                    x -> x.put(-1, b));
            Refused.throwing("put(0, " + b + "), an empty row", IndexOutOfBoundsException.class, StreamFilters::new,
                    x -> x.put(0, b));
        }
    }

    // Promise 4

    private static void cuts() {
        cutSome();
        cutNotMore();
        cutAll();
        cutBelowZero();
    }

    /** "Only the first many bytes of the row are left: how many are gone." */
    private static void cutSome() {
        StreamFilters x = new StreamFilters();
        x.feed(0x01020304, 0x05060708, 0, 0, 9);
        Check.same("cut: the last one", x.cut(19), 1);
        Check.same("cut: down to one", x.cut(1), 18);
        Rows.decodesTo("cut: the first one is left", x, Rows.of(1));
        x.feed(0x0B0C0D0E, 0, 0, 0, 0);
        x.cut(4);
        Rows.decodesTo("cut: what is gone does not come back", x, Rows.of(1, 11, 12, 13));
        StreamFilters y = Filtered.longRow(sevens(16384));
        Check.same("cut: a full row", y.cut(16383), 1);
        Check.same("cut: a full row, down to none", y.cut(0), 16383);
    }

    /** "(all, if there are not more)". */
    private static void cutNotMore() {
        StreamFilters x = new StreamFilters();
        Check.same("cut(0), an empty row", x.cut(0), 0);
        Check.same("cut(1), an empty row", x.cut(1), 0);
        Check.same("cut(highest), an empty row", x.cut(HIGHEST), 0);
        x.feed(1, 2, 3, 4, 5);
        for (int many : new int[] {20, 21, 16384, 16385, HIGHEST}) {
            Check.same("cut(" + many + ")", x.cut(many), 0);
            Check.same("cut(" + many + "): all are left", x.decode(), 20);
        }
    }

    /** With 0 none are left; the result is not the row's. */
    private static void cutAll() {
        StreamFilters x = busy();
        Check.same("cut(0)", x.cut(0), 17);
        Check.same("cut(0): the result stays", x.at(0), 0x41);
        Rows.hasFault("cut(0): the fault stays", x, 0, StreamFilters.OVER, 16);
        Check.same("cut(0): the chain stays", x.drop(), 1);
        Check.same("cut(0): the row is empty", x.decode(), 0);
    }

    /** "IllegalArgument: many is below 0." */
    private static void cutBelowZero() {
        for (int many : new int[] {-1, -2, LOWEST}) {
            Refused.throwing("cut(" + many + ")", IllegalArgumentException.class, BoundaryCallsTest::busy, x -> x.cut(many));
            Refused.throwing("cut(" + many + "), an empty row", IllegalArgumentException.class, StreamFilters::new,
                    x -> x.cut(many));
        }
    }

    // Promise 5

    private static void filters() {
        filterUpToEight();
        filterWithoutPredictor();
        filterOfNoKind();
        filterNotEarly();
        filterTheNinth();
        filterBothWrong();
    }

    /** "One filter more in the chain: how many there are", from 1 to 8, of every kind. */
    private static void filterUpToEight() {
        for (int kind = 0; kind <= 4; kind++) {
            for (int early = 0; early <= 1; early++) {
                StreamFilters x = new StreamFilters();
                for (int many = 1; many <= 8; many++) {
                    Check.same("filter(" + kind + ", " + early + "): " + many, x.filter(kind, early), many);
                }
                Check.same("filter: drop()", x.drop(), 8);
                Check.same("filter: the first again", x.filter(kind, early), 1);
            }
        }
    }

    /** "without a predictor": neither that of the one before, nor one that was dropped. */
    private static void filterWithoutPredictor() {
        StreamFilters x = Rows.loaded(Rows.ofText("010101>"), 3);
        x.predict(2, 1, 8, 3);
        Rows.decodesTo("filter: with one", x, Rows.of(1, 2, 3));
        x.drop();
        x.filter(3, 0);
        Rows.decodesTo("filter: it was dropped", x, Rows.of(1, 1, 1));
        StreamFilters y = Rows.loaded(Rows.ofText("30013001 0E>"), 3);
        y.predict(2, 1, 8, 5);
        y.filter(3, 0);
        // "01abp" goes into the second one
        Rows.decodesTo("filter: the next one has none", y, Rows.of(0x01, 0xAB));
        Rows.hasFault("filter: the one before keeps its own", y, 1, StreamFilters.SIGN, 5);
    }

    /** "IllegalArgument: kind is not 0 .. 4". */
    private static void filterOfNoKind() {
        for (int kind : new int[] {LOWEST, -1, 5, 6, HIGHEST}) {
            Refused.throwing("filter(" + kind + ", 0)", IllegalArgumentException.class, StreamFilters::new,
                    x -> x.filter(kind, 0));
            Refused.throwing("filter(" + kind + ", 1)", IllegalArgumentException.class, BoundaryCallsTest::busy,
                    x -> x.filter(kind, 1));
        }
    }

    /** "or early not 0, 1": whatever the kind. */
    private static void filterNotEarly() {
        for (int early : new int[] {LOWEST, -1, 2, 3, HIGHEST}) {
            for (int kind = 0; kind <= 4; kind++) {
                int one = kind;
                Refused.throwing("filter(" + kind + ", " + early + ")", IllegalArgumentException.class,
                        BoundaryCallsTest::busy, x -> x.filter(one, early));
            }
        }
    }

    /** "IllegalState: there are 8." */
    private static void filterTheNinth() {
        for (int kind = 0; kind <= 4; kind++) {
            int one = kind;
            Refused.throwing("filter: the ninth", IllegalStateException.class, BoundaryCallsTest::fullChain,
                    x -> x.filter(one, one % 2));
        }
        StreamFilters x = fullChain();
        Rows.decodesTo("filter: eight of them, and a predictor", x, Rows.of(1, 3, 6));
        Check.fails("filter: the ninth", IllegalStateException.class, () -> x.filter(4, 0));
        Rows.decodesTo("filter: still eight", x, Rows.of(1, 3, 6));
    }

    /** The first one wins: IllegalArgument, also when there are 8. */
    private static void filterBothWrong() {
        Refused.throwing("filter: the ninth, no kind", IllegalArgumentException.class, BoundaryCallsTest::fullChain,
                x -> x.filter(5, 0));
        Refused.throwing("filter: the ninth, no kind", IllegalArgumentException.class, BoundaryCallsTest::fullChain,
                x -> x.filter(-1, 0));
        Refused.throwing("filter: the ninth, not early", IllegalArgumentException.class, BoundaryCallsTest::fullChain,
                x -> x.filter(0, 2));
        Refused.throwing("filter: the ninth, not early", IllegalArgumentException.class, BoundaryCallsTest::fullChain,
                x -> x.filter(0, -1));
    }

    // Promise 6

    private static void predicts() {
        predictTheLast();
        predictEdgesThatAreGood();
        predictNoSuchPredictor();
        predictNoneOfTheirs();
        predictWithoutFilter();
        predictBothWrong();
    }

    private static long predicted(StreamFilters x, int predictor, int colours, int bits, int columns) {
        x.predict(predictor, colours, bits, columns);
        return 0;
    }

    private static String told(int predictor, int colours, int bits, int columns) {
        return "predict(" + predictor + ", " + colours + ", " + bits + ", " + columns + ")";
    }

    /** "The last filter has a predictor": another one in place of the one it had; 1 is none. */
    private static void predictTheLast() {
        StreamFilters x = fullChain();
        Rows.decodesTo("predict: 2", x, Rows.of(1, 3, 6));
        x.predict(10, 1, 8, 2);
        Rows.decodesTo("predict: another one", x, Rows.of(2, 5));
        x.predict(1, 1, 8, 2);
        Rows.decodesTo("predict: none", x, Rows.of(1, 2, 3));
        x.predict(2, 2, 8, 2);
        Rows.decodesTo("predict: with two colours", x, Rows.of(1, 2, 4));
    }

    /** "COLOURS 1 .. 8, BITS 1, 2, 4, 8, 16, COLUMNS 1 .. 4096": the first and the last of each are good. */
    private static void predictEdgesThatAreGood() {
        for (int predictor : PREDICTORS) {
            for (int bits : new int[] {1, 2, 4, 8, 16}) {
                StreamFilters x = Rows.loaded(Rows.ofText("000000>"), 3);
                for (int colours : new int[] {1, 8}) {
                    for (int columns : new int[] {1, 4096}) {
                        Check.same(told(predictor, colours, bits, columns),
                                predicted(x, predictor, colours, bits, columns), 0);
                        x.decode();
                        Rows.hasNoFault(told(predictor, colours, bits, columns), x);
                    }
                }
            }
        }
    }

    private static void noPredictor(int predictor, int colours, int bits, int columns) {
        Refused.throwing(told(predictor, colours, bits, columns), IllegalArgumentException.class, BoundaryCallsTest::busy,
                x -> x.predict(predictor, colours, bits, columns));
    }

    /** "IllegalArgument: it is not 1, 2 or 10 .. 15". */
    private static void predictNoSuchPredictor() {
        for (int predictor : new int[] {LOWEST, -1, 0, 3, 4, 9, 16, 17, HIGHEST}) {
            noPredictor(predictor, 1, 8, 1);
        }
    }

    /** "or colours, bits or columns are none of theirs (also with 1)". */
    private static void predictNoneOfTheirs() {
        for (int predictor : PREDICTORS) {
            for (int colours : new int[] {LOWEST, -1, 0, 9, HIGHEST}) {
                noPredictor(predictor, colours, 8, 1);
            }
            for (int bits : new int[] {LOWEST, -8, -1, 0, 3, 5, 6, 7, 9, 12, 15, 17, 24, 32, 64, HIGHEST}) {
                noPredictor(predictor, 1, bits, 1);
            }
            for (int columns : new int[] {LOWEST, -1, 0, 4097, HIGHEST}) {
                noPredictor(predictor, 1, 8, columns);
            }
        }
    }

    /** "IllegalState: there is no filter." */
    private static void predictWithoutFilter() {
        for (int predictor : PREDICTORS) {
            Refused.throwing("predict: no filter", IllegalStateException.class, StreamFilters::new,
                    x -> x.predict(predictor, 1, 8, 1));
        }
        Refused.throwing("predict: dropped", IllegalStateException.class, () -> {
            StreamFilters x = busy();
            x.drop();
            return x;
        }, x -> x.predict(2, 8, 16, 4096));
    }

    /** The first one wins: IllegalArgument, also when there is no filter. */
    private static void predictBothWrong() {
        int[][] wrong = {{0, 1, 8, 1}, {16, 1, 8, 1}, {1, 0, 8, 1}, {2, 9, 8, 1}, {1, 1, 3, 1}, {10, 1, 8, 0},
                {15, 1, 8, 4097}};
        for (int[] four : wrong) {
            Refused.throwing("no filter, " + told(four[0], four[1], four[2], four[3]), IllegalArgumentException.class,
                    StreamFilters::new, x -> x.predict(four[0], four[1], four[2], four[3]));
        }
    }

    // Promise 7

    private static void drops() {
        dropNone();
        dropEight();
        dropLeavesTheRest();
    }

    /** "how many it had": none. */
    private static void dropNone() {
        StreamFilters x = new StreamFilters();
        Check.same("drop(): a new one", x.drop(), 0);
        x.filter(0, 0);
        Check.same("drop(): one", x.drop(), 1);
        Check.same("drop(): again", x.drop(), 0);
    }

    /** "The chain has no filters any more": a full one takes eight again. */
    private static void dropEight() {
        StreamFilters x = fullChain();
        Check.same("drop(): eight", x.drop(), 8);
        Check.fails("drop(): no filter is left", IllegalStateException.class, () -> predicted(x, 1, 1, 8, 1));
        for (int many = 1; many <= 8; many++) {
            Check.same("drop(): eight more", x.filter(4, 0), many);
        }
        Check.same("drop(): eight more", x.drop(), 8);
    }

    /** Row, budget, result and fault are no part of the chain. */
    private static void dropLeavesTheRest() {
        StreamFilters x = busy();
        x.drop();
        Rows.looksLike("drop(): the result", x, Rows.of(0x41, 0x83, 0xC6));
        Rows.hasFault("drop(): the fault", x, 0, StreamFilters.OVER, 16);
        Check.same("drop(): the budget", x.budget(1), 7);
        Check.same("drop(): the row", x.cut(0), 17);
    }

    // Promise 8

    private static void budgets() {
        budgetEdges();
        budgetNone();
        budgetNotThere();
        budgetAtOnce();
    }

    /** "The BUDGET: what it was", from 0 to 65,536. */
    private static void budgetEdges() {
        StreamFilters x = new StreamFilters();
        int before = 65536;
        for (int bytes : new int[] {0, 0, 65536, 65536, 1, 65535, 0}) {
            Check.same("budget(" + bytes + ")", x.budget(bytes), before);
            before = bytes;
        }
    }

    /** With 0 the first byte is one too many, and where no byte comes there is no fault. */
    private static void budgetNone() {
        StreamFilters x = Rows.loaded(Rows.ofText("41>"), 3);
        x.budget(0);
        Rows.decodesTo("budget(0)", x, Rows.of());
        Rows.hasFault("budget(0)", x, 0, StreamFilters.OVER, 2);
        x.put(0, '>');
        Rows.decodesTo("budget(0): no byte comes", x, Rows.of());
        Rows.hasNoFault("budget(0): no byte comes", x);
    }

    /** "IllegalArgument: it is not 0 .. 65,536." */
    private static void budgetNotThere() {
        for (int bytes : new int[] {LOWEST, -1, 65537, 65536 + 65536, HIGHEST}) {
            Refused.throwing("budget(" + bytes + ")", IllegalArgumentException.class, BoundaryCallsTest::busy,
                    x -> x.budget(bytes));
            Refused.throwing("budget(" + bytes + "), a new one", IllegalArgumentException.class, StreamFilters::new,
                    x -> x.budget(bytes));
        }
    }

    /** It holds for the next decoding; the last one's result stays as it is. */
    private static void budgetAtOnce() {
        StreamFilters x = Rows.loaded(Rows.ofText("414243>"), 3);
        x.decode();
        x.budget(1);
        Rows.looksLike("budget: the last result", x, Rows.of(0x41, 0x42, 0x43));
        Rows.hasNoFault("budget: the last fault", x);
        Rows.decodesTo("budget: the next result", x, Rows.of(0x41));
        x.budget(3);
        Rows.decodesTo("budget: and the next", x, Rows.of(0x41, 0x42, 0x43));
        Rows.hasNoFault("budget: and the next", x);
    }

    // Promise 9

    private static void decodes() {
        decodeEmpty();
        decodeFullRow();
        decodeLongest();
        decodeAgain();
    }

    /** "how many bytes the result has": none. */
    private static void decodeEmpty() {
        StreamFilters x = new StreamFilters();
        Rows.decodesTo("decode: an empty row", x, Rows.of());
        Rows.hasNoFault("decode: an empty row", x);
        StreamFilters y = Rows.loaded(Rows.ofText(">"), 3);
        Rows.decodesTo("decode: an empty text", y, Rows.of());
        Rows.hasNoFault("decode: an empty text", y);
    }

    /** "without filters the result is the row": a full one too, and whatever the budget. */
    private static void decodeFullRow() {
        StreamFilters x = Filtered.longRow(sevens(16384));
        x.budget(0);
        Rows.decodesTo("decode: a full row", x, sevens(16384));
        Rows.hasNoFault("decode: a full row", x);
    }

    /** "The result has at most 65,536 bytes." */
    private static void decodeLongest() {
        StreamFilters x = Rows.loaded(Streams.lengthsOfOne(7, 65536), 4);
        Rows.decodesTo("decode: the longest", x, Filtered.many(65536, 7));
        Rows.hasNoFault("decode: the longest", x);
    }

    /** It takes nothing away: the same row, chain and budget give the same again, and a shorter result is no longer. */
    private static void decodeAgain() {
        StreamFilters x = Rows.loaded(Rows.ofText("0241024202430244>"), 3);
        x.predict(12, 1, 8, 1);
        x.budget(8);
        for (int i = 0; i < 3; i++) {
            Rows.decodesTo("decode: time " + i, x, Rows.of(0x41, 0x83, 0xC6, 0x0A));
            Rows.hasNoFault("decode: time " + i, x);
        }
        Check.same("decode: the row stays", x.cut(2), 15);
        Rows.decodesTo("decode: a shorter one", x, Rows.of());
        Rows.hasFault("decode: a shorter one", x, 0, StreamFilters.ENDS, 2);
    }

    // Promise 10

    private static void ats() {
        atBeforeDecoding();
        atEdges();
        atOfAnEmptyResult();
        atOfTheLongest();
        atOfTheLastDecoding();
    }

    /** "NONE if there is none such": there was no decoding. */
    private static void atBeforeDecoding() {
        StreamFilters x = Rows.loaded(Rows.ofText("41>"), 3);
        for (int i : new int[] {LOWEST, -1, 0, 1, 2, HIGHEST}) {
            Check.same("at(" + i + "): no decoding", x.at(i), NONE);
        }
        x.keep();
        Check.same("at(0): keep() is no decoding", x.at(0), NONE);
    }

    /** "Byte i of the result": from 0 to 255, from the first to the last. */
    private static void atEdges() {
        StreamFilters x = Rows.loaded(Rows.ofText("FF00807F01>"), 3);
        x.decode();
        int[] due = {255, 0, 128, 127, 1};
        for (int i = 0; i < 5; i++) {
            Check.same("at(" + i + ")", x.at(i), due[i]);
        }
        for (int i : new int[] {LOWEST, -1, 5, 6, 10, 11, 65536, HIGHEST}) {
            Check.same("at(" + i + ")", x.at(i), NONE);
        }
    }

    private static void atOfAnEmptyResult() {
        StreamFilters x = Rows.loaded(Rows.ofText(">"), 3);
        x.decode();
        Check.same("at(0): an empty result", x.at(0), NONE);
        Check.same("at(-1): an empty result", x.at(-1), NONE);
    }

    private static void atOfTheLongest() {
        StreamFilters x = Rows.loaded(Streams.lengthsOfOne(200, 65536), 4);
        x.decode();
        Check.same("at(65535)", x.at(65535), 200);
        Check.same("at(65536)", x.at(65536), NONE);
    }

    /** "of the last decoding": not of the row, and not of one before. */
    private static void atOfTheLastDecoding() {
        StreamFilters x = Rows.loaded(Rows.ofText("414243>"), 3);
        x.decode();
        x.put(0, '5');
        x.feed(1, 2, 3, 4, 5);
        Check.same("at(0): the row has changed", x.at(0), 0x41);
        x.cut(4);
        x.decode();
        Check.same("at(0): decoded again", x.at(0), 0x51);
        Check.same("at(2): that was the one before", x.at(2), NONE);
    }

    // Promise 11

    private static void faults() {
        faultBeforeDecoding();
        faultNone();
        faultAllThree();
        faultAnotherWhat();
        faultOfTheLastDecoding();
    }

    /** "NONE for all if there was none (or no decoding)". */
    private static void faultBeforeDecoding() {
        StreamFilters x = Rows.loaded(Rows.ofText("?"), 3);
        Rows.hasNoFault("fault: no decoding", x);
        x.keep();
        Rows.hasNoFault("fault: keep() is no decoding", x);
    }

    private static void faultNone() {
        StreamFilters x = Rows.loaded(Rows.ofText("41>"), 3);
        x.decode();
        Rows.hasNoFault("fault: there was none", x);
        x.drop();
        x.decode();
        Rows.hasNoFault("fault: no filters", x);
    }

    /** "what = 0 the filter that has the fault, from 0 on, 1 the fault, 2 its place": the lowest of them are 0, 1, 0. */
    private static void faultAllThree() {
        StreamFilters x = Rows.loaded(Rows.of(), 3);
        x.decode();
        Rows.hasFault("fault: the lowest", x, 0, StreamFilters.ENDS, 0);
        byte[] row = Rows.ofText("4G");
        for (int i = 0; i < 7; i++) {
            row = Streams.lengthsOf(row);
        }
        StreamFilters y = Rows.loaded(row, 4, 4, 4, 4, 4, 4, 4, 3);
        y.decode();
        Rows.hasFault("fault: the last filter", y, 7, StreamFilters.SIGN, 2);
    }

    /** "and for another what". */
    private static void faultAnotherWhat() {
        StreamFilters x = Rows.loaded(Rows.ofText("41?"), 3);
        for (int what : new int[] {LOWEST, -1, 3, 4, HIGHEST}) {
            Check.same("fault(" + what + "): no decoding", x.fault(what), NONE);
        }
        x.decode();
        for (int what : new int[] {LOWEST, -1, 3, 4, HIGHEST}) {
            Check.same("fault(" + what + ")", x.fault(what), NONE);
        }
        Rows.hasFault("fault: looking changes nothing", x, 0, StreamFilters.SIGN, 3);
    }

    /** "Of the last decoding": it stays until the next one, and is gone if that one has none. */
    private static void faultOfTheLastDecoding() {
        StreamFilters x = Rows.loaded(Rows.ofText("41?"), 3);
        x.decode();
        x.put(2, '>');
        x.feed(1, 2, 3, 4, 5);
        x.cut(3);
        x.budget(9);
        x.filter(3, 0);
        x.predict(2, 1, 8, 1);
        x.drop();
        x.filter(3, 0);
        Rows.hasFault("fault: it stays", x, 0, StreamFilters.SIGN, 3);
        x.decode();
        Rows.hasNoFault("fault: it is gone", x);
        x.cut(1);
        x.decode();
        Rows.hasFault("fault: another one", x, 0, StreamFilters.ENDS, 1);
        x.keep();
        Rows.hasFault("fault: keep() leaves it", x, 0, StreamFilters.ENDS, 1);
    }

    // Promise 12

    private static void keeps() {
        keepBeforeDecoding();
        keepAnEmptyResult();
        keepTheLongest();
        keepTooLong();
        keepOfAFault();
        keepOnItsOwn();
    }

    /** "(before any decode() nothing happens, the row stays)". */
    private static void keepBeforeDecoding() {
        StreamFilters x = new StreamFilters();
        Check.same("keep(): a new one", x.keep(), 0);
        x.feed(0x01020304, 0, 0, 0, 5);
        x.filter(3, 0);
        Check.same("keep(): no decoding", x.keep(), 20);
        Check.same("keep(): the chain stays", x.drop(), 1);
        Check.same("keep(): the row stays", x.put(3, 7), 4);
        Check.same("keep(): again", x.keep(), 20);
        x.cut(2);
        Check.same("keep(): the row as it is", x.keep(), 2);
    }

    /** "The result becomes the row": an empty one too. */
    private static void keepAnEmptyResult() {
        StreamFilters x = Rows.loaded(Rows.ofText("?41>"), 3);
        x.decode();
        Check.same("keep(): an empty result", x.keep(), 0);
        Check.same("keep(): the row is empty", x.cut(0), 0);
        Check.same("keep(): there is room", x.feed(1, 2, 3, 4, 5), 20);
    }

    /** "more than 16,384": 16,384 are not more, and fill the row. */
    private static void keepTheLongest() {
        for (int many : new int[] {16383, 16384}) {
            StreamFilters x = Rows.loaded(Streams.lengthsOf(sevens(many)), 4);
            x.decode();
            Check.same("keep(): " + many, x.keep(), many);
            Check.same("keep(): the last byte", x.put(many - 1, 1), 9);
            Check.fails("keep(): behind it", IndexOutOfBoundsException.class, () -> x.put(many, 1));
            Check.same("keep(): it is full", x.feed(1, 2, 3, 4, 5), NONE);
        }
    }

    /** "IllegalState: these are more than 16,384." */
    private static void keepTooLong() {
        for (int many : new int[] {16385, 20000, 65535, 65536}) {
            Refused.throwing("keep(): " + many, IllegalStateException.class, () -> {
                StreamFilters x = Rows.loaded(Streams.lengthsOf(sevens(many)), 4);
                x.decode();
                return x;
            }, StreamFilters::keep);
        }
        StreamFilters x = Rows.loaded(Streams.lengthsOf(sevens(16385)), 4);
        x.decode();
        Check.fails("keep(): 16,385", IllegalStateException.class, x::keep);
        x.budget(16384);
        x.decode();
        Check.same("keep(): a shorter result", x.keep(), 16384);
    }

    /** What came out before the fault is the result, and becomes the row. */
    private static void keepOfAFault() {
        StreamFilters x = Rows.loaded(Rows.ofText("41424?"), 3);
        x.decode();
        Check.same("keep(): of a fault", x.keep(), 2);
        x.drop();
        Rows.decodesTo("keep(): of a fault", x, Rows.of(0x41, 0x42));
    }

    /** Row and result are two: what changes the one leaves the other alone; chain and budget stay. */
    private static void keepOnItsOwn() {
        StreamFilters x = Rows.loaded(Rows.ofText("34313E>"), 3);
        x.budget(50);
        x.decode();
        x.cut(1);
        Check.same("keep(): the row had been cut", x.keep(), 3);
        x.put(0, '5');
        x.feed(-1, -1, -1, -1, -1);
        Rows.looksLike("keep(): the result stays", x, Rows.ofText("41>"));
        Check.same("keep(): again, the row as before", x.keep(), 3);
        Rows.decodesTo("keep(): the chain stays", x, Rows.of(0x41));
        Check.same("keep(): the budget stays", x.budget(0), 50);
        Check.same("keep(): the chain stays", x.drop(), 1);
        Rows.decodesTo("keep(): the row", x, Rows.ofText("41>"));
    }
}
