import java.util.Arrays;
import java.util.Random;

/** Promise 9, LZW: strings, widths, clears, its faults and their places. */
final class LzwTest {
    private LzwTest() {
    }

    public static void main(String[] args) {
        packed();
        byHand();
        stringOfItself();
        widths();
        full();
        noSuchString();
        ends();
        over();
        Check.end();
    }

    private static StreamFilters lzw(byte[] row, int early) {
        StreamFilters x = Rows.loaded(row);
        x.filter(1, early);
        return x;
    }

    private static void good(String what, byte[] row, int early, byte[] due) {
        StreamFilters x = lzw(row, early);
        Rows.decodesTo(what, x, due);
        Rows.hasNoFault(what, x);
    }

    private static void faulty(String what, byte[] row, byte[] due, int fault, int place) {
        StreamFilters x = lzw(row, 0);
        Rows.decodesTo(what, x, due);
        Rows.hasFault(what, x, 0, fault, place);
    }

    private static Streams.Bits nines(int... codes) {
        Streams.Bits bits = new Streams.Bits();
        for (int code : codes) {
            bits.highNumber(code, 9);
        }
        return bits;
    }

    private static void packed() {
        Random random = new Random(3);
        for (int size : new int[] {0, 1, 5, 300, 600, 2500}) {
            for (int values : new int[] {1, 2, 9, 256}) {
                byte[] bytes = new byte[size];
                for (int i = 0; i < size; i++) {
                    bytes[i] = (byte) random.nextInt(values);
                }
                for (int early = 0; early <= 1; early++) {
                    for (int clearAfter : new int[] {1, 100, 253, 254, 255, 1000, 1000000}) {
                        good("packed " + size + " " + values + " " + early + " " + clearAfter,
                                Streams.lzwOf(bytes, early, clearAfter), early, bytes);
                    }
                }
            }
        }
    }

    private static void byHand() {
        good("without a clear in front", nines(65, 66, 258, 257).bytes(), 0, Rows.ofText("ABAB"));
        good("the end at once", nines(257).bytes(), 0, Rows.of());
        good("clears, one behind the other", nines(256, 256, 65, 256, 256, 66, 257).bytes(), 1, Rows.ofText("AB"));
        good("something behind the end", Rows.joined(nines(65, 257).bytes(), Rows.of(1, 2)), 0, Rows.ofText("A"));
        good("numbers begin anew behind a clear", nines(65, 66, 256, 67, 68, 258, 257).bytes(), 0, Rows.ofText("ABCDCD"));
        good("strings of strings", nines(65, 66, 258, 67, 260, 259, 257).bytes(), 0, Rows.ofText("ABABCABCBA"));
    }

    private static void stringOfItself() {
        good("itself", nines(65, 258, 259, 260, 257).bytes(), 0, Rows.ofText("AAAAAAAAAA"));
        good("itself, with two bytes", nines(65, 66, 258, 260, 257).bytes(), 0, Rows.ofText("ABABABA"));
        faulty("itself, at the very first", nines(258).bytes(), Rows.of(), StreamFilters.CODE, 2);
        faulty("itself, behind a clear", nines(65, 66, 256, 258).bytes(), Rows.ofText("AB"), StreamFilters.CODE, 5);
    }

    /** So many codes 65; each but the first one makes a string, and each is as wide as that asks. */
    private static Streams.Bits manyOfOne(int many, int early) {
        Streams.Bits bits = new Streams.Bits();
        for (int i = 0; i < many; i++) {
            bits.highNumber(65, widthBefore(i, early));
        }
        return bits;
    }

    private static int widthBefore(int written, int early) {
        int next = Math.min(4096, 258 + Math.max(0, written - 1)) + early;
        return next >= 2048 ? 12 : next >= 1024 ? 11 : next >= 512 ? 10 : 9;
    }

    private static void widths() {
        for (int early = 0; early <= 1; early++) {
            for (int number : new int[] {512, 1024, 2048, 4096}) {
                for (int many = number - 260; many < number - 254; many++) {
                    byte[] row = manyOfOne(many, early).highNumber(257, widthBefore(many, early)).bytes();
                    byte[] due = new byte[many];
                    Arrays.fill(due, (byte) 65);
                    good("width at " + number + ", " + many + " codes, early " + early, row, early, due);
                }
            }
        }
        // 254 codes make the strings up to 510, so that 511 is the next: early, that is 10 bits
        byte[] row = manyOfOne(254, 1).highNumber(257, 10).bytes();
        StreamFilters x = lzw(row, 1);
        Check.same("254 codes, early", x.decode(), 254);
        Rows.hasNoFault("254 codes, early", x);
        row = manyOfOne(254, 0).highNumber(257, 9).bytes();
        x = lzw(row, 0);
        Check.same("254 codes", x.decode(), 254);
        Rows.hasNoFault("254 codes", x);
        row = manyOfOne(255, 0).highNumber(257, 10).bytes();
        x = lzw(row, 0);
        Check.same("255 codes", x.decode(), 255);
        Rows.hasNoFault("255 codes", x);
        // behind a clear they are nine bits wide again
        row = manyOfOne(300, 0).highNumber(256, 10).highNumber(66, 9).highNumber(257, 9).bytes();
        x = lzw(row, 0);
        Check.same("300 codes and a clear", x.decode(), 301);
        Rows.hasNoFault("300 codes and a clear", x);
    }

    private static void full() {
        // 3,839 codes make all strings from 258 up to 4095
        for (int early = 0; early <= 1; early++) {
            byte[] row = manyOfOne(3838, early).highNumber(4095, 12).highNumber(4095, 12).highNumber(66, 12)
                    .highNumber(4095, 12).highNumber(258, 12).highNumber(257, 12).bytes();
            byte[] due = new byte[3838 + 2 + 2 + 1 + 2 + 2];
            Arrays.fill(due, (byte) 65);
            due[3842] = 66;
            StreamFilters x = lzw(row, early);
            Check.same("full: 4095 is a string", x.decode(), due.length);
            Rows.hasNoFault("full", x);
            Rows.looksLike("full", x, due);
            Check.same("full: at(3842)", x.at(3842), 66);
            Check.same("full: at(3843)", x.at(3843), 65);
        }
    }

    private static void noSuchString() {
        faulty("one too high", nines(65, 259).bytes(), Rows.ofText("A"), StreamFilters.CODE, 3);
        faulty("far too high", nines(65, 66, 511).bytes(), Rows.ofText("AB"), StreamFilters.CODE, 4);
        faulty("a clear has taken it", nines(65, 66, 67, 256, 65, 259).bytes(), Rows.ofText("ABCA"), StreamFilters.CODE, 7);
        faulty("the eighth code ends a byte", nines(1, 2, 3, 4, 5, 6, 7, 300).bytes(), Rows.of(1, 2, 3, 4, 5, 6, 7),
                StreamFilters.CODE, 9);
    }

    private static void ends() {
        byte[] row = nines(65, 66, 258, 260, 67, 257).bytes();
        byte[] due = Rows.ofText("ABABABAC");
        int[] given = {0, 0, 1, 2, 4, 7, 8};
        for (int many = 0; many < row.length; many++) {
            faulty("it ends after " + many, Arrays.copyOf(row, many), Arrays.copyOf(due, given[many]), StreamFilters.ENDS,
                    many);
        }
    }

    private static void over() {
        byte[] row = nines(65, 66, 258, 260, 257).bytes();
        byte[] due = Rows.ofText("ABABABA");
        int[] places = {2, 3, 4, 4, 5, 5, 5};
        for (int budget = 0; budget < 7; budget++) {
            StreamFilters x = lzw(row, 1);
            x.budget(budget);
            Rows.decodesTo("budget " + budget, x, Arrays.copyOf(due, budget));
            Rows.hasFault("budget " + budget, x, 0, StreamFilters.OVER, places[budget]);
        }
        StreamFilters x = lzw(row, 1);
        x.budget(7);
        Rows.decodesTo("budget 7", x, due);
        Rows.hasNoFault("budget 7", x);
    }
}
