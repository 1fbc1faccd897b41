import java.util.Arrays;

/** Brings whole rows into an object and takes whole results out of it. */
final class Rows {
    private Rows() {
    }

    static byte[] of(int... bytes) {
        byte[] row = new byte[bytes.length];
        for (int i = 0; i < row.length; i++) {
            row[i] = (byte) bytes[i];
        }
        return row;
    }

    static byte[] ofText(String text) {
        byte[] row = new byte[text.length()];
        for (int i = 0; i < row.length; i++) {
            row[i] = (byte) text.charAt(i);
        }
        return row;
    }

    /** The bytes that the blank-free hexadecimal digits tell. */
    static byte[] ofDigits(String digits) {
        String plain = digits.replace(" ", "");
        byte[] row = new byte[plain.length() / 2];
        for (int i = 0; i < row.length; i++) {
            row[i] = (byte) Integer.parseInt(plain.substring(2 * i, 2 * i + 2), 16);
        }
        return row;
    }

    static byte[] joined(byte[]... parts) {
        byte[] all = new byte[0];
        for (byte[] part : parts) {
            int before = all.length;
            all = Arrays.copyOf(all, before + part.length);
            System.arraycopy(part, 0, all, before, part.length);
        }
        return all;
    }

    /** The row of x becomes these bytes. */
    static void load(StreamFilters x, byte[] row) {
        x.cut(0);
        byte[] padded = Arrays.copyOf(row, (row.length + 19) / 20 * 20);
        for (int i = 0; i < padded.length; i += 20) {
            x.feed(four(padded, i), four(padded, i + 4), four(padded, i + 8),
                    four(padded, i + 12), four(padded, i + 16));
        }
        x.cut(row.length);
    }

    private static int four(byte[] row, int i) {
        return row[i] << 24 | (row[i + 1] & 255) << 16 | (row[i + 2] & 255) << 8 | (row[i + 3] & 255);
    }

    static StreamFilters loaded(byte[] row, int... kinds) {
        StreamFilters x = new StreamFilters();
        load(x, row);
        for (int kind : kinds) {
            x.filter(kind, 0);
        }
        return x;
    }

    /** Decodes, and looks at the result; of a long one only at some 100 places, for an object has 512 calls. */
    static void decodesTo(String what, StreamFilters x, byte[] due) {
        Check.same(what + ": decode()", x.decode(), due.length);
        looksLike(what, x, due);
    }

    static void looksLike(String what, StreamFilters x, byte[] due) {
        int step = Math.max(1, due.length / 100);
        for (int i = 0; i < due.length; i += step) {
            Check.same(what + ": at(" + i + ")", x.at(i), due[i] & 255);
        }
        if (due.length > 0) {
            Check.same(what + ": at(last)", x.at(due.length - 1), due[due.length - 1] & 255);
        }
        Check.same(what + ": at(behind the last)", x.at(due.length), StreamFilters.NONE);
    }

    static void hasFault(String what, StreamFilters x, int filter, int fault, int place) {
        Check.same(what + ": fault(0)", x.fault(0), filter);
        Check.same(what + ": fault(1)", x.fault(1), fault);
        Check.same(what + ": fault(2)", x.fault(2), place);
    }

    static void hasNoFault(String what, StreamFilters x) {
        hasFault(what, x, StreamFilters.NONE, StreamFilters.NONE, StreamFilters.NONE);
    }
}
