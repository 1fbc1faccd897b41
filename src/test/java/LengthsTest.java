import java.util.Arrays;
import java.util.Random;

/** Promise 9, LENGTHS: runs, bytes as they are, the end, faults and their places. */
final class LengthsTest {
    private LengthsTest() {
    }

    public static void main(String[] args) {
        Random random = new Random(5);
        for (int size = 0; size < 600; size += 37) {
            byte[] bytes = new byte[size];
            for (int i = 0; i < size; i++) {
                bytes[i] = (byte) random.nextInt(1 + size % 3);
            }
            good("packed " + size, Streams.lengthsOf(bytes), bytes);
        }
        everyLength();
        good("the end at once", Rows.of(128), Rows.of());
        good("something behind the end", Rows.of(0, 7, 128, 1), Rows.of(7));
        faulty("nothing", Rows.of(), Rows.of(), StreamFilters.ENDS, 0);
        faulty("no end", Rows.of(0, 7), Rows.of(7), StreamFilters.ENDS, 2);
        faulty("a length and no byte", Rows.of(0), Rows.of(), StreamFilters.ENDS, 1);
        faulty("fewer than the length tells", Rows.of(3, 7, 8), Rows.of(7, 8), StreamFilters.ENDS, 3);
        faulty("a run and no byte", Rows.of(0, 7, 255), Rows.of(7), StreamFilters.ENDS, 3);
        over();
        Check.end();
    }

    private static void good(String what, byte[] row, byte[] due) {
        StreamFilters x = Rows.loaded(row, 4);
        Rows.decodesTo(what, x, due);
        Rows.hasNoFault(what, x);
    }

    private static void faulty(String what, byte[] row, byte[] due, int fault, int place) {
        StreamFilters x = Rows.loaded(row, 4);
        Rows.decodesTo(what, x, due);
        Rows.hasFault(what, x, 0, fault, place);
    }

    private static void everyLength() {
        for (int length = 0; length < 128; length++) {
            byte[] bytes = new byte[length + 1];
            for (int i = 0; i <= length; i++) {
                bytes[i] = (byte) (200 + i);
            }
            good("length " + length, Rows.joined(Rows.of(length), bytes, Rows.of(128)), bytes);
        }
        for (int length = 129; length < 256; length++) {
            byte[] bytes = new byte[257 - length];
            Arrays.fill(bytes, (byte) 128);
            good("length " + length, Rows.of(length, 128, 128), bytes);
        }
    }

    private static void over() {
        byte[] row = Rows.of(1, 5, 6, 255, 7, 128);
        byte[] due = Rows.of(5, 6, 7, 7);
        int[] places = {2, 3, 5, 5};
        for (int budget = 0; budget < 4; budget++) {
            StreamFilters x = Rows.loaded(row, 4);
            x.budget(budget);
            Rows.decodesTo("budget " + budget, x, Arrays.copyOf(due, budget));
            Rows.hasFault("budget " + budget, x, 0, StreamFilters.OVER, places[budget]);
        }
        StreamFilters x = Rows.loaded(row, 4);
        x.budget(4);
        Rows.decodesTo("budget 4", x, due);
        Rows.hasNoFault("budget 4", x);
        x.budget(2);
        x.cut(4);
        Rows.decodesTo("no byte, and no budget", x, Rows.of(5, 6));
        Rows.hasFault("no byte, and no budget", x, 0, StreamFilters.ENDS, 4);
    }
}
