import java.util.Arrays;

/** One filter over a whole row: what it gives, and its fault if it has one. */
final class Filtered {
    static final int FLATE = 0;
    static final int LZW = 1;
    static final int TEXT = 2;
    static final int DIGITS = 3;
    static final int LENGTHS = 4;

    private Filtered() {
    }

    /** It gives these bytes, and there is no fault. */
    static void gives(String what, int kind, byte[] row, byte[] due) {
        StreamFilters x = Rows.loaded(row, kind);
        Rows.decodesTo(what, x, due);
        Rows.hasNoFault(what, x);
    }

    /** It gives these bytes, and then it has this fault at this place. */
    static void stops(String what, int kind, byte[] row, byte[] due, int fault, int place) {
        StreamFilters x = Rows.loaded(row, kind);
        Rows.decodesTo(what, x, due);
        Rows.hasFault(what, x, 0, fault, place);
    }

    /** An object without filters and with a row that feed alone would need more than 512 calls for. */
    static StreamFilters longRow(byte[] row) {
        StreamFilters x = Rows.loaded(Streams.lengthsOf(row), LENGTHS);
        Check.same("long row: decode()", x.decode(), row.length);
        Check.same("long row: keep()", x.keep(), row.length);
        x.drop();
        return x;
    }

    /** So many times the same byte. */
    static byte[] many(int many, int b) {
        byte[] bytes = new byte[many];
        Arrays.fill(bytes, (byte) b);
        return bytes;
    }
}
