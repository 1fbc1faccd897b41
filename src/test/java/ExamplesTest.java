/** The examples of README.md, with the answers that it tells. */
final class ExamplesTest {
    private ExamplesTest() {
    }

    public static void main(String[] args) {
        oneFilter();
        predictorAndFault();
        chainAndKeep();
        Check.end();
    }

    private static void oneFilter() {
        StreamFilters x = new StreamFilters();
        Check.same("feed", x.feed(0x34313432, 0x3E000000, 0, 0, 0), 20);
        Check.same("cut(5)", x.cut(5), 15);
        Check.same("filter(3, 0)", x.filter(3, 0), 1);
        Check.same("decode()", x.decode(), 2);
        Check.same("at(0)", x.at(0), 0x41);
        Check.same("at(2)", x.at(2), StreamFilters.NONE);
        Check.same("fault(1)", x.fault(1), StreamFilters.NONE);
    }

    private static void predictorAndFault() {
        StreamFilters x = new StreamFilters();
        x.feed(0x789C63E4, 0x62646464, 0x02624600, 0x00970015, 0);
        x.cut(16);
        x.filter(0, 0);
        x.predict(15, 1, 8, 4);
        Rows.decodesTo("two rows", x, Rows.of(10, 11, 12, 13, 11, 12, 13, 14));
        Rows.hasNoFault("two rows", x);
        Check.same("put(15, 0)", x.put(15, 0), 0x15);
        Rows.decodesTo("a wrong sum", x, Rows.of(10, 11, 12, 13, 11, 12, 13, 14));
        Rows.hasFault("a wrong sum", x, 0, StreamFilters.CHECK, 16);
        Check.same("budget(7)", x.budget(7), 65536);
        Rows.decodesTo("a small budget", x, Rows.of(10, 11, 12, 13, 11));
        Rows.hasFault("a small budget", x, 0, StreamFilters.OVER, 10);
    }

    private static void chainAndKeep() {
        StreamFilters x = new StreamFilters();
        x.feed(0x46453431, 0x38303E00, 0, 0, 0);
        x.cut(7);
        Check.same("filter(3, 0)", x.filter(3, 0), 1);
        Check.same("filter(4, 0)", x.filter(4, 0), 2);
        Rows.decodesTo("both filters", x, Rows.of(0x41, 0x41, 0x41));
        Check.same("keep()", x.keep(), 3);
        Check.same("drop()", x.drop(), 2);
        Rows.decodesTo("without filters", x, Rows.of(0x41, 0x41, 0x41));
    }
}
