import java.util.Arrays;

/**
 * The boundary cases of the first sentences under "Terms": the row, the chain, the budget, the faults and
 * their places. Each sentence has a method of its own.
 */
final class BoundaryChainTest {
    private static final int[] KINDS = {Filtered.FLATE, Filtered.LZW, Filtered.TEXT, Filtered.DIGITS, Filtered.LENGTHS};

    private BoundaryChainTest() {
    }

    public static void main(String[] args) {
        fullRow();
        chainOfEight();
        withoutFilters();
        faultOfEachFilter();
        laterFiltersDoNotRun();
        predictorOfTheFaultyOne();
        budgetOfOneFilter();
        budgetOfAllFilters();
        budgetUsedUp();
        budgetBeforeThePredictor();
        otherFaultsBeforeOver();
        longestResult();
        longestBetween();
        placeInItsOwnInput();
        emptyInput();
        endsAtEveryPlace();
        behindTheEnd();
        fiveHundredAndTwelveCalls();
        Check.end();
    }

    /** What each kind makes "AB" of. */
    private static byte[] packed(int kind) {
        byte[] plain = Rows.ofText("AB");
        switch (kind) {
            case Filtered.FLATE:
                return Streams.flateOf(plain, 9, 0);
            case Filtered.LZW:
                return Streams.lzwOf(plain, 0, 1000);
            case Filtered.TEXT:
                return Streams.text85Of(plain);
            case Filtered.DIGITS:
                return Streams.digitsOf(plain);
            default:
                return Streams.lengthsOf(plain);
        }
    }

    /** "THE ROW has at most 16,384 bytes": a filter reads all of them. */
    private static void fullRow() {
        byte[] row = Filtered.many(16384, '0');
        StreamFilters x = Filtered.longRow(row);
        x.filter(Filtered.DIGITS, 0);
        Rows.decodesTo("a full row", x, new byte[8192]);
        Rows.hasFault("a full row, and no end", x, 0, StreamFilters.ENDS, 16384);
        x.put(16383, '>');
        Rows.decodesTo("a full row, its last byte ends", x, new byte[8192]);
        Rows.hasNoFault("a full row, its last byte ends", x);
        x.put(16383, '?');
        Rows.decodesTo("a full row, its last byte is none", x, new byte[8191]);
        Rows.hasFault("a full row, its last byte is none", x, 0, StreamFilters.SIGN, 16384);
    }

    /** "A CHAIN has at most 8 filters": one of each kind, and three more. */
    private static void chainOfEight() {
        int[] kinds = {4, 3, 2, 1, 0, 3, 4, 2};
        byte[] row = Rows.ofText("the end");
        for (int i = 7; i >= 0; i--) {
            row = kinds[i] == 4 ? Streams.lengthsOf(row) : kinds[i] == 3 ? Streams.digitsOf(row)
                    : kinds[i] == 2 ? Streams.text85Of(row) : kinds[i] == 1 ? Streams.lzwOf(row, 0, 1000)
                    : Streams.flateOf(row, 9, 0);
        }
        StreamFilters x = Rows.loaded(row, kinds);
        Rows.decodesTo("eight filters", x, Rows.ofText("the end"));
        Rows.hasNoFault("eight filters", x);
    }

    /** "without filters the result is the row": empty, or with the budget 0. */
    private static void withoutFilters() {
        StreamFilters x = new StreamFilters();
        x.budget(0);
        Rows.decodesTo("no filters, no row", x, Rows.of());
        Rows.hasNoFault("no filters, no row", x);
        Rows.load(x, Rows.of(1, 2, 3));
        Rows.decodesTo("no filters, no budget", x, Rows.of(1, 2, 3));
        Rows.hasNoFault("no filters, no budget", x);
    }

    /** "DECODING stops at the first FAULT": in the first filter, the last, and each between. */
    private static void faultOfEachFilter() {
        for (int faulty = 0; faulty < 8; faulty++) {
            byte[] row = Rows.of(0, 65, 1, 66);
            for (int i = 0; i < faulty; i++) {
                row = Streams.lengthsOf(row);
            }
            StreamFilters x = Rows.loaded(row, 4, 4, 4, 4, 4, 4, 4, 4);
            Rows.decodesTo("fault of filter " + faulty, x, Rows.of(65, 66));
            Rows.hasFault("fault of filter " + faulty, x, faulty, StreamFilters.ENDS, 4);
        }
    }

    /** The ones behind would have faults of their own, and would give something else. */
    private static void laterFiltersDoNotRun() {
        StreamFilters x = Rows.loaded(Rows.ofText("33323F"), 3, 3, 2);
        Rows.decodesTo("the first one's fault", x, Rows.ofText("32?"));
        Rows.hasFault("the first one's fault", x, 0, StreamFilters.ENDS, 6);
        Rows.load(x, Rows.ofText("33323F>"));
        Rows.decodesTo("the second one's fault", x, Rows.ofText("2"));
        Rows.hasFault("the second one's fault", x, 1, StreamFilters.SIGN, 3);
        Rows.load(x, Rows.ofText("33323E>"));
        Rows.decodesTo("the third one's fault", x, Rows.of());
        Rows.hasFault("the third one's fault", x, 2, StreamFilters.ENDS, 1);
    }

    /** "the result is what the filter that has it gave up to there (its predictor, if it has one, undone)". */
    private static void predictorOfTheFaultyOne() {
        StreamFilters x = Rows.loaded(Rows.ofText("01010101?"), 3);
        x.predict(2, 1, 8, 3);
        Rows.decodesTo("a predictor and a fault", x, Rows.of(1, 2, 3, 1));
        Rows.hasFault("a predictor and a fault", x, 0, StreamFilters.SIGN, 9);
        Rows.load(x, Rows.ofText("?"));
        Rows.decodesTo("a predictor, a fault, and nothing", x, Rows.of());
        Rows.hasFault("a predictor, a fault, and nothing", x, 0, StreamFilters.SIGN, 1);
        // the second one's predictor has nothing to do with it
        x.filter(3, 0);
        x.predict(2, 1, 8, 100);
        Rows.load(x, Rows.ofText("01010101?"));
        Rows.decodesTo("the next one has a predictor too", x, Rows.of(1, 2, 3, 1));
    }

    /** "when one more would come and there is none left, that is the fault OVER": each kind gives just as many. */
    private static void budgetOfOneFilter() {
        int[] places = {5, 4, 5, 4, 4};
        for (int kind : KINDS) {
            StreamFilters x = Rows.loaded(packed(kind), kind);
            x.budget(2);
            Rows.decodesTo("just as many, kind " + kind, x, Rows.ofText("AB"));
            Rows.hasNoFault("just as many, kind " + kind, x);
            x.budget(1);
            Rows.decodesTo("one too few, kind " + kind, x, Rows.ofText("A"));
            Rows.hasFault("one too few, kind " + kind, x, 0, StreamFilters.OVER, places[kind]);
            x.budget(0);
            Check.same("two too few, kind " + kind, x.decode(), 0);
            Check.same("two too few, kind " + kind, x.fault(1), StreamFilters.OVER);
        }
    }

    /** "Each byte that a filter gives is one of the BUDGET": of all filters together, 11 + 5 + 2 bytes. */
    private static void budgetOfAllFilters() {
        byte[] row = Streams.digitsOf(Streams.digitsOf(Streams.digitsOf(Rows.ofText("AB"))));
        StreamFilters x = Rows.loaded(row, 3, 3, 3);
        x.budget(18);
        Rows.decodesTo("as many as all give", x, Rows.ofText("AB"));
        Rows.hasNoFault("as many as all give", x);
        x.budget(17);
        Rows.decodesTo("one too few for all", x, Rows.ofText("A"));
        Rows.hasFault("one too few for all", x, 2, StreamFilters.OVER, 4);
        x.budget(16);
        Rows.decodesTo("as many as two give", x, Rows.of());
        Rows.hasFault("as many as two give", x, 2, StreamFilters.OVER, 2);
        x.budget(15);
        Rows.decodesTo("one too few for two", x, Rows.ofText("4142"));
        Rows.hasFault("one too few for two", x, 1, StreamFilters.OVER, 10);
        x.budget(11);
        Rows.decodesTo("as many as one gives", x, Rows.of());
        Rows.hasFault("as many as one gives", x, 1, StreamFilters.OVER, 2);
        x.budget(10);
        Rows.decodesTo("one too few for one", x, Rows.ofText("343134323e"));
        Check.same("one too few for one", x.fault(0), 0);
    }

    /** None left is no fault as long as none more would come. */
    private static void budgetUsedUp() {
        StreamFilters x = Rows.loaded(Rows.ofText("3E>"), 3, 3);
        x.budget(1);
        Rows.decodesTo("used up, and none more comes", x, Rows.of());
        Rows.hasNoFault("used up, and none more comes", x);
        StreamFilters y = Rows.loaded(Rows.of(128), 4, 4);
        y.budget(0);
        Rows.decodesTo("no budget, and none comes", y, Rows.of());
        Rows.hasFault("no budget, and the second one has no input", y, 1, StreamFilters.ENDS, 0);
    }

    /** "(before its predictor)": TAGs count, and what the predictor takes away does not come back. */
    private static void budgetBeforeThePredictor() {
        StreamFilters x = Rows.loaded(Rows.ofText("00340031003E>"), 3);
        x.predict(10, 1, 8, 1);
        x.budget(6);
        Rows.decodesTo("six with TAGs", x, Rows.ofText("41>"));
        Rows.hasNoFault("six with TAGs", x);
        x.budget(5);
        Rows.decodesTo("one too few with TAGs", x, Rows.ofText("41"));
        Rows.hasFault("one too few with TAGs", x, 0, StreamFilters.OVER, 12);
        x.filter(3, 0);
        x.budget(7);
        Rows.decodesTo("seven for both", x, Rows.of(0x41));
        Rows.hasNoFault("seven for both", x);
        x.budget(6);
        Rows.decodesTo("one too few for both", x, Rows.of());
        Rows.hasFault("one too few for both", x, 1, StreamFilters.OVER, 2);
    }

    /** A fault that comes before a byte does is told, whatever is left. */
    private static void otherFaultsBeforeOver() {
        for (int kind : KINDS) {
            StreamFilters x = Rows.loaded(Rows.of(), kind);
            x.budget(0);
            x.decode();
            Rows.hasFault("no budget, no input, kind " + kind, x, 0, StreamFilters.ENDS, 0);
        }
        StreamFilters x = Rows.loaded(Rows.ofText("4?"), 3);
        x.budget(0);
        x.decode();
        Rows.hasFault("no budget, no digit", x, 0, StreamFilters.SIGN, 2);
        StreamFilters y = Rows.loaded(Rows.ofText("s8W-\""), 2);
        y.budget(0);
        y.decode();
        Rows.hasFault("no budget, out of range", y, 0, StreamFilters.RANGE, 5);
    }

    /** "The result has at most 65,536 bytes." */
    private static void longestResult() {
        byte[] row = Streams.lengthsOfOne(5, 65536);
        StreamFilters x = Rows.loaded(row, 4);
        Rows.decodesTo("65,536 bytes", x, Filtered.many(65536, 5));
        Rows.hasNoFault("65,536 bytes", x);
        Check.same("65,536 bytes", x.at(65535), 5);
        // one more, as it is: behind 512 runs of two bytes stand the length and the byte itself
        row = Rows.joined(Arrays.copyOf(row, 1024), Rows.of(0, 6, 128));
        StreamFilters y = Rows.loaded(row, 4);
        Rows.decodesTo("65,537 bytes", y, Filtered.many(65536, 5));
        Rows.hasFault("65,537 bytes", y, 0, StreamFilters.OVER, 1026);
        Check.same("65,537 bytes", y.at(65535), 5);
        Check.same("65,537 bytes", y.at(65536), StreamFilters.NONE);
    }

    /** As many may come between two filters: the second one reads what it can, and has no budget to give. */
    private static void longestBetween() {
        StreamFilters x = Rows.loaded(Streams.lengthsOfOne(' ', 65536), 4, 3);
        Rows.decodesTo("65,536 blanks", x, Rows.of());
        Rows.hasFault("65,536 blanks", x, 1, StreamFilters.ENDS, 65536);
        byte[] row = Streams.lengthsOfOne(' ', 65535);
        row = Rows.joined(Arrays.copyOf(row, row.length - 1), Rows.of(0, '>', 128));
        StreamFilters y = Rows.loaded(row, 4, 3);
        Rows.decodesTo("65,535 blanks and the end", y, Rows.of());
        Rows.hasNoFault("65,535 blanks and the end", y);
    }

    /** "A fault's place is how many bytes of its input the filter had begun to read": its own input, not the row. */
    private static void placeInItsOwnInput() {
        StreamFilters x = Rows.loaded(Rows.of(253, ' ', 0, '?', 128, 1, 2, 3), 4, 3);
        x.decode();
        Rows.hasFault("the place in the second one's input", x, 1, StreamFilters.SIGN, 5);
        // 9 bits have begun the second byte, and no more
        StreamFilters y = Rows.loaded(Rows.of(255, 255, 255, 255), 1);
        y.decode();
        Rows.hasFault("a byte that has only been begun", y, 0, StreamFilters.CODE, 2);
    }

    /** "ENDS is the fault when something more must be read and the input has ended": an empty one, of each kind. */
    private static void emptyInput() {
        for (int kind : KINDS) {
            Filtered.stops("an empty row, kind " + kind, kind, Rows.of(), Rows.of(), StreamFilters.ENDS, 0);
            StreamFilters x = Rows.loaded(Rows.of(128), Filtered.LENGTHS, kind);
            Rows.decodesTo("the second one's input is empty, kind " + kind, x, Rows.of());
            Rows.hasFault("the second one's input is empty, kind " + kind, x, 1, StreamFilters.ENDS, 0);
        }
    }

    /** All but the last bytes of good data: it ends where these end. */
    private static void endsAtEveryPlace() {
        for (int kind : KINDS) {
            byte[] row = packed(kind);
            for (int many = 0; many < row.length; many++) {
                StreamFilters x = Rows.loaded(Arrays.copyOf(row, many), kind);
                x.decode();
                Rows.hasFault("kind " + kind + " ends after " + many, x, 0, StreamFilters.ENDS, many);
            }
            Filtered.gives("kind " + kind + " is whole", kind, row, Rows.ofText("AB"));
        }
    }

    /** "What lies behind the end of a filter's data is not looked at." */
    private static void behindTheEnd() {
        for (int kind : KINDS) {
            for (int b : new int[] {0, 1, '?', 127, 128, 255}) {
                byte[] row = Rows.joined(packed(kind), Filtered.many(9, b));
                Filtered.gives("kind " + kind + ", behind it " + b, kind, row, Rows.ofText("AB"));
            }
        }
    }

    /** "An object is used for at most 512 calls": the 512th is answered like the first. */
    private static void fiveHundredAndTwelveCalls() {
        StreamFilters x = new StreamFilters();
        for (int call = 0; call < 510; call += 2) {
            Check.same("call " + call, x.feed(0x34313E20, 0, 0, 0, 0), 20);
            Check.same("call " + (call + 1), x.cut(0), 20);
        }
        x.feed(0x34313E20, 0, 0, 0, 0);
        Check.same("call 512", x.decode(), 20);
    }
}
