import java.util.Arrays;

/**
 * The boundary cases that the sentences about PREDICTORS name; each has a method of its own, and the sentence
 * stands above it.
 */
final class BoundaryPredictorTest {
    private static final int TAG = StreamFilters.TAG;

    private BoundaryPredictorTest() {
    }

    public static void main(String[] args) {
        none();
        rows();
        numbers();
        tags();
        wrongTags();
        Check.end();
    }

    /** What LENGTHS gives are these bytes. */
    private static StreamFilters over(byte[] bytes, int predictor, int colours, int bits, int columns) {
        StreamFilters x = Rows.loaded(Streams.lengthsOf(bytes), Filtered.LENGTHS);
        x.predict(predictor, colours, bits, columns);
        return x;
    }

    private static void gives(String what, StreamFilters x, int... due) {
        Rows.decodesTo(what, x, Rows.of(due));
        Rows.hasNoFault(what, x);
    }

    /** "1: none." */
    private static void none() {
        gives("1, nothing", over(Rows.of(), 1, 1, 8, 1));
        gives("1", over(Rows.of(9, 1, 1, 255), 1, 8, 16, 4096), 9, 1, 1, 255);
        gives("1, rows of one", over(Rows.of(9, 1, 1, 255), 1, 1, 8, 1), 9, 1, 1, 255);
    }

    // Rows

    private static void rows() {
        smallestRow();
        largestRow();
        filledUpToBytes();
        lastIsShorter();
    }

    /** "a ROW has COLUMNS * COLOURS * BITS bits, filled up to bytes": of one bit, one byte. */
    private static void smallestRow() {
        gives("2, one bit", over(Rows.of(255, 255, 128), 2, 1, 1, 1), 255, 255, 128);
        gives("10, one bit", over(Rows.of(2, 255, 2, 1, 2, 1), 10, 1, 1, 1), 255, 0, 1);
    }

    /** 4096 * 8 * 16 bits are 65,536 bytes: the whole result is one row; with a TAG its last byte has no budget. */
    private static void largestRow() {
        StreamFilters x = Rows.loaded(Streams.lengthsOfOne(1, 65536), Filtered.LENGTHS);
        x.predict(2, 8, 16, 4096);
        Check.same("2, the largest row", x.decode(), 65536);
        Rows.hasNoFault("2, the largest row", x);
        // 257 times column + 1, modulo 65536
        Check.same("2, the first column", x.at(0), 1);
        Check.same("2, column 255, high", x.at(16 * 255), (256 * 257 >> 8) % 256);
        Check.same("2, the last column, high", x.at(65520), (4096 * 257 >> 8) % 256);
        Check.same("2, the last column, low", x.at(65535), 4096 * 257 % 256);

        StreamFilters y = Rows.loaded(Streams.lengthsOfOne(1, 65536), Filtered.LENGTHS);
        y.predict(15, 8, 16, 4096);
        Check.same("15, the largest row", y.decode(), 65535);
        Rows.hasNoFault("15, the largest row", y);
        Check.same("15, the first unit", y.at(15), 1);
        Check.same("15, the second unit", y.at(16), 2);
        Check.same("15, the last byte", y.at(65534), 4096 % 256);
        StreamFilters z = Rows.loaded(Streams.lengthsOfOne(1, 65537), Filtered.LENGTHS);
        z.predict(15, 8, 16, 4096);
        Check.same("15, the largest row and its TAG", z.decode(), 65535);
        Check.same("15, the largest row and its TAG", z.fault(1), StreamFilters.OVER);
    }

    /** One bit more than bytes have needs another one: 8 columns of one bit, and 9. */
    private static void filledUpToBytes() {
        gives("7 bits", over(Rows.of(0, 1, 2, 1), 12, 1, 1, 7), 1, 2);
        gives("8 bits", over(Rows.of(0, 1, 2, 1), 12, 1, 1, 8), 1, 2);
        gives("9 bits", over(Rows.of(0, 1, 2, 2, 1, 1), 12, 1, 1, 9), 1, 2, 2, 3);
        gives("16 bits", over(Rows.of(0, 1, 2, 2, 1, 1), 12, 1, 1, 16), 1, 2, 2, 3);
        gives("17 bits", over(Rows.of(0, 1, 2, 3, 2, 1, 1, 1), 12, 1, 1, 17), 1, 2, 3, 2, 3, 4);
        gives("24 bits of three colours", over(Rows.of(0, 1, 2, 3, 2, 1, 1, 1), 12, 3, 8, 1), 1, 2, 3, 2, 3, 4);
        gives("28 bits of seven colours", over(Rows.of(0, 1, 2, 3, 4, 2, 1, 1, 1, 1), 12, 7, 4, 1), 1, 2, 3, 4, 2, 3, 4, 5);
    }

    /** "the last one may be shorter": by one byte, down to one byte, and it may be the first. */
    private static void lastIsShorter() {
        gives("2, one byte less", over(Rows.of(1, 1, 1, 1, 1), 2, 1, 8, 3), 1, 2, 3, 1, 2);
        gives("2, one byte", over(Rows.of(1, 1, 1, 1), 2, 1, 8, 3), 1, 2, 3, 1);
        gives("2, the first row", over(Rows.of(1, 1), 2, 1, 8, 3), 1, 2);
        gives("10, one byte less", over(Rows.of(1, 1, 1, 1, 1, 1, 1), 10, 1, 8, 3), 1, 2, 3, 1, 2);
        gives("10, one byte", over(Rows.of(1, 1, 1, 1, 1, 1), 10, 1, 8, 3), 1, 2, 3, 1);
        gives("10, only its TAG", over(Rows.of(1, 1, 1, 1, 1), 10, 1, 8, 3), 1, 2, 3);
        gives("10, the first row", over(Rows.of(1, 1), 10, 1, 8, 3), 1);
        gives("10, only the first TAG", over(Rows.of(4), 10, 1, 8, 3));
        gives("10, nothing", over(Rows.of(), 10, 1, 8, 3));
        gives("2, nothing", over(Rows.of(), 2, 1, 8, 3));
    }

    // Predictor 2

    private static void numbers() {
        firstOnesStay();
        modulo();
        eachRowAnew();
        notWhole();
        whatFillsUp();
        coloursApart();
    }

    /** "each but the first COLOURS ones". */
    private static void firstOnesStay() {
        for (int colours = 1; colours <= 8; colours++) {
            byte[] bytes = Filtered.many(colours + 1, 3);
            byte[] due = bytes.clone();
            due[colours] = 6;
            StreamFilters x = over(bytes, 2, colours, 8, 2);
            Rows.decodesTo("2, " + colours + " colours", x, due);
            StreamFilters y = over(bytes, 2, colours, 8, 1);
            Rows.decodesTo("2, " + colours + " colours, one column", y, bytes);
        }
    }

    /** "is added, modulo 2 to the power of BITS": the sum is just that power, and goes into no neighbour. */
    private static void modulo() {
        gives("1 bit", over(Rows.of(0b11000000), 2, 1, 1, 8), 0b10000000);
        gives("1 bit, all ones", over(Rows.of(0b11111111), 2, 1, 1, 8), 0b10101010);
        gives("2 bits", over(Rows.of(0b11010000), 2, 1, 2, 4), 0b11000000);
        gives("2 bits, all ones", over(Rows.of(0b11111111), 2, 1, 2, 4), 0b11100100);
        gives("4 bits", over(Rows.of(0xF1, 0x00), 2, 1, 4, 4), 0xF0, 0x00);
        gives("4 bits, all ones", over(Rows.of(0xFF, 0xFF), 2, 1, 4, 4), 0xFE, 0xDC);
        gives("8 bits", over(Rows.of(255, 1, 0), 2, 1, 8, 3), 255, 0, 0);
        gives("8 bits, all ones", over(Rows.of(255, 255, 255), 2, 1, 8, 3), 255, 254, 253);
        gives("16 bits", over(Rows.of(255, 255, 0, 1, 0, 0), 2, 1, 16, 3), 255, 255, 0, 0, 0, 0);
        gives("16 bits, all ones", over(Rows.of(255, 255, 255, 255), 2, 1, 16, 2), 255, 255, 255, 254);
        gives("16 bits, from low to high", over(Rows.of(0, 255, 0, 1), 2, 1, 16, 2), 0, 255, 1, 0);
    }

    /** "in a row": the next one begins anew. */
    private static void eachRowAnew() {
        gives("2, rows of two", over(Rows.of(1, 1, 1, 1, 1, 1), 2, 1, 8, 2), 1, 2, 1, 2, 1, 2);
        gives("2, rows of one", over(Rows.of(1, 1, 1), 2, 1, 8, 1), 1, 1, 1);
        gives("2, rows of 16 bits", over(Rows.of(0, 1, 0, 1, 0, 1, 0, 1), 2, 1, 16, 2), 0, 1, 0, 2, 0, 1, 0, 2);
    }

    /** "(numbers that are not whole in a shorter row stay as they are": half of 16 bits. */
    private static void notWhole() {
        gives("half a number", over(Rows.of(0, 1, 0, 1, 7), 2, 1, 16, 3), 0, 1, 0, 2, 7);
        gives("half of the first", over(Rows.of(7), 2, 1, 16, 3), 7);
        gives("half of the second", over(Rows.of(5, 1, 7), 2, 1, 16, 3), 5, 1, 7);
        gives("half a number in the second row", over(Rows.of(5, 1, 5, 1, 5, 1, 7), 2, 1, 16, 2), 5, 1, 10, 2, 5, 1, 7);
        gives("two colours, half a number", over(Rows.of(5, 1, 6, 2, 5, 1, 7), 2, 2, 16, 2), 5, 1, 6, 2, 10, 2, 7);
        // however many whole ones stand before it: each is 0x0501 more
        for (int wholes = 0; wholes < 40; wholes++) {
            byte[] bytes = new byte[2 * wholes + 1];
            byte[] due = new byte[2 * wholes + 1];
            for (int i = 0; i < wholes; i++) {
                bytes[2 * i] = 5;
                bytes[2 * i + 1] = 1;
                due[2 * i] = (byte) (0x0501 * (i + 1) >> 8);
                due[2 * i + 1] = (byte) (0x0501 * (i + 1));
            }
            bytes[2 * wholes] = 7;
            due[2 * wholes] = 7;
            Rows.decodesTo("half a number behind " + wholes, over(bytes, 2, 1, 16, 4096), due);
        }
    }

    /** "and what fills up)": the bits behind the last column. */
    private static void whatFillsUp() {
        for (int fill = 0; fill < 2; fill++) {
            int ones = fill == 0 ? 0 : 255;
            gives("7 of 8 bits", over(Rows.of(0b11111110 | ones & 1), 2, 1, 1, 7), 0b10101010 | ones & 1);
            gives("one of 8 bits", over(Rows.of(0x80 | ones & 0x7F), 2, 1, 1, 1), 0x80 | ones & 0x7F);
            gives("two of 8 bits", over(Rows.of(0xC0 | ones & 0x3F), 2, 1, 1, 2), 0x80 | ones & 0x3F);
            gives("6 of 8 bits", over(Rows.of(0b01010100 | ones & 3), 2, 1, 2, 3), 0b01101100 | ones & 3);
            gives("4 of 8 bits", over(Rows.of(0x10 | ones & 15, 0x20 | ones & 15), 2, 1, 4, 1), 0x10 | ones & 15,
                    0x20 | ones & 15);
            gives("12 of 16 bits", over(Rows.of(0x11, 0x10 | ones & 15, 0x11, 0x10 | ones & 15), 2, 1, 4, 3),
                    0x12, 0x30 | ones & 15, 0x12, 0x30 | ones & 15);
            gives("9 of 16 bits", over(Rows.of(255, 0x80 | ones & 0x7F), 2, 1, 1, 9), 0xAA, 0x80 | ones & 0x7F);
        }
    }

    /** "to the one COLOURS before it": colours of a few bits lie over the bytes' edges. */
    private static void coloursApart() {
        gives("3 colours of 4 bits", over(Rows.of(0x12, 0x31, 0x11, 0x11, 0x10), 2, 3, 4, 3), 0x12, 0x32, 0x34, 0x34, 0x50);
        gives("5 colours of one bit", over(Rows.of(0b10101101, 0b01000000), 2, 5, 1, 2), 0b10101000, 0b00000000);
        gives("8 colours of 16 bits", over(Rows.joined(Filtered.many(16, 1), Filtered.many(16, 2)), 2, 8, 16, 2),
                1, 1, 1, 1, 1, 1, 1, 1, 1, 1, 1, 1, 1, 1, 1, 1, 3, 3, 3, 3, 3, 3, 3, 3, 3, 3, 3, 3, 3, 3, 3, 3);
    }

    // Predictors 10 to 15

    private static void tags() {
        tagsOfEachPredictor();
        tagNothing();
        tagLeft();
        tagAbove();
        tagHalf();
        tagNearest();
        nearestOfSeveral();
        units();
        aboveAShorterRow();
    }

    /** The TAG says what is added, whichever of 10 to 15 the predictor is. */
    private static void tagsOfEachPredictor() {
        for (int predictor = 10; predictor <= 15; predictor++) {
            gives("all five, predictor " + predictor,
                    over(Rows.of(0, 5, 5, 1, 5, 5, 2, 5, 5, 3, 5, 5, 4, 5, 5), predictor, 1, 8, 2),
                    5, 5, 5, 10, 10, 15, 10, 17, 15, 22);
        }
    }

    /** "0 nothing". */
    private static void tagNothing() {
        gives("0", over(Rows.of(0, 255, 0, 0, 1, 2), 10, 1, 8, 2), 255, 0, 1, 2);
    }

    /** "1 to each byte that is added which is U bytes before (0 where there is none)"; "modulo 256". */
    private static void tagLeft() {
        gives("1, the first has none", over(Rows.of(1, 255, 1, 1), 10, 1, 8, 3), 255, 0, 1);
        gives("1, the row before is not left", over(Rows.of(1, 9, 9, 1, 5, 5), 10, 1, 8, 2), 9, 18, 5, 10);
        gives("1, the first U have none", over(Rows.of(1, 1, 2, 3, 255, 254, 253), 10, 3, 8, 2), 1, 2, 3, 0, 0, 0);
    }

    /** "2 that above (0 above the first row)"; "modulo 256". */
    private static void tagAbove() {
        gives("2, the first row", over(Rows.of(2, 255, 1), 10, 1, 8, 2), 255, 1);
        gives("2, the second row", over(Rows.of(2, 255, 1, 2, 1, 255), 10, 1, 8, 2), 255, 1, 0, 0);
        gives("2, a shorter row", over(Rows.of(2, 255, 1, 2, 2), 10, 1, 8, 2), 255, 1, 1);
    }

    /** "3 half the sum of both, rounded down": the sum may be more than 255. */
    private static void tagHalf() {
        gives("3, the first byte", over(Rows.of(3, 9), 10, 1, 8, 2), 9);
        gives("3, the first row", over(Rows.of(3, 9, 0, 0), 10, 1, 8, 3), 9, 4, 2);
        gives("3, the first column", over(Rows.of(0, 9, 9, 3, 0, 0), 10, 1, 8, 2), 9, 9, 4, 6);
        gives("3, 255 and 255", over(Rows.of(0, 255, 255, 3, 128, 0), 10, 1, 8, 2), 255, 255, 255, 255);
        gives("3, 255 and 254", over(Rows.of(0, 255, 254, 3, 128, 0), 10, 1, 8, 2), 255, 254, 255, 254);
        gives("3, 1 and 0", over(Rows.of(0, 2, 0, 3, 0, 0), 10, 1, 8, 2), 2, 0, 1, 0);
        gives("3, modulo 256", over(Rows.of(0, 255, 255, 3, 128, 1), 10, 1, 8, 2), 255, 255, 255, 0);
    }

    /** "4 that one of left a, above b, and left above c, which is nearest to a + b - c": 0 where there is none. */
    private static void tagNearest() {
        gives("4, the first byte", over(Rows.of(4, 9), 10, 1, 8, 2), 9);
        gives("4, the first row", over(Rows.of(4, 9, 1, 255), 10, 1, 8, 3), 9, 10, 9);
        gives("4, the first column", over(Rows.of(0, 9, 9, 4, 1, 0), 10, 1, 8, 2), 9, 9, 10, 10);
        // next to a 1 anything but 0 for what is not there would be seen
        gives("4, the first row, a 1", over(Rows.of(4, 1, 0, 0), 10, 1, 8, 3), 1, 1, 1);
        gives("4, the first column, a 1", over(Rows.of(0, 1, 1, 4, 0, 0), 10, 1, 8, 2), 1, 1, 1, 1);
        nearest("a", 100, 50, 49, 100);
        nearest("b", 50, 100, 49, 100);
        nearest("c", 40, 60, 50, 50);
        // a + b - c is above 255 or below 0, and is not taken modulo 256
        nearest("above 255", 255, 200, 0, 255);
        nearest("above 255, the other", 200, 255, 0, 255);
        nearest("below 0", 0, 10, 255, 0);
        nearest("below 0, the other", 10, 0, 255, 0);
    }

    /** "of several the first in this order": a, b, c. */
    private static void nearestOfSeveral() {
        // a and b can only be the nearest both if they are the same
        nearest("a and b", 11, 11, 10, 11);
        nearest("all the same", 7, 7, 7, 7);
        // aim 30: a 20 and c 40 are as far, b is farther
        nearest("a before c", 20, 50, 40, 20);
        // aim 30: b 20 and c 40 are as far, a is farther
        nearest("b before c", 50, 20, 40, 20);
        // aim 4: a 2 and b 6 are two from it, c 4 is none
        nearest("c, between a and b", 2, 6, 4, 4);
    }

    /** Two rows of two: c and b above, a and what is guessed below. */
    private static void nearest(String what, int a, int b, int c, int due) {
        gives("4, " + what, over(Rows.of(0, c, b, 4, a - c, 0), 10, 1, 8, 2), c, b, a, due);
    }

    /** "U: how many bytes COLOURS * BITS bits are, 1 at least". */
    private static void units() {
        int[][] shapes = {{1, 1, 1}, {7, 1, 1}, {8, 1, 1}, {1, 2, 1}, {4, 2, 1}, {8, 2, 2}, {1, 4, 1}, {2, 4, 1}, {4, 4, 2},
            {8, 4, 4}, {1, 8, 1}, {2, 8, 2}, {8, 8, 8}, {1, 16, 2}, {4, 16, 8}, {8, 16, 16}};
        for (int[] shape : shapes) {
            // the first U bytes are 3, the next U bytes 6, and one more is 9
            byte[] bytes = Filtered.many(2 * shape[2] + 2, 3);
            bytes[0] = 1;
            byte[] due = Filtered.many(2 * shape[2] + 1, 6);
            Arrays.fill(due, 0, shape[2], (byte) 3);
            due[2 * shape[2]] = 9;
            StreamFilters x = over(bytes, 11, shape[0], shape[1], 4096);
            Rows.decodesTo("U of " + shape[0] + " colours, " + shape[1] + " bits", x, due);
        }
        // whole bytes: of 12 and 15 bits one, of 20 and 28 bits two and three
        gives("U of 12 bits", over(Rows.of(1, 1, 1, 1), 11, 3, 4, 2), 1, 2, 3);
        gives("U of 14 bits", over(Rows.of(1, 1, 1, 1), 11, 7, 2, 2), 1, 2, 3);
        gives("U of 20 bits", over(Rows.of(1, 1, 1, 1, 1, 1), 11, 5, 4, 2), 1, 1, 2, 2, 3);
        gives("U of 28 bits", over(Rows.of(1, 1, 1, 1, 1), 11, 7, 4, 2), 1, 1, 1, 2);
    }

    /** Only the last row is shorter, so each row has a whole one above: also when U is more than the row has. */
    private static void aboveAShorterRow() {
        gives("4 in a shorter row", over(Rows.of(0, 10, 20, 30, 4, 1, 1), 10, 1, 8, 3), 10, 20, 30, 11, 21);
        gives("U is a whole row", over(Rows.of(1, 1, 2, 1, 3, 4, 4, 1, 1), 10, 2, 8, 1), 1, 2, 3, 4, 4, 5);
    }

    // The fault TAG

    private static void wrongTags() {
        firstWrongTag();
        wrongInTheFirstRow();
        rowsBefore();
        wrongTagAlone();
        placeOfATag();
        ownFaultGoesFirst();
        wrongTagStopsTheChain();
    }

    /** "Of a TAG above 4": 4 is one, 5 and 255 are none. */
    private static void firstWrongTag() {
        gives("4", over(Rows.of(4, 7), 10, 1, 8, 1), 7);
        for (int tag : new int[] {5, 6, 127, 128, 255}) {
            for (int predictor = 10; predictor <= 15; predictor++) {
                byte[] row = Rows.of(1, tag, 7, 128);
                StreamFilters x = Rows.loaded(row, Filtered.LENGTHS);
                x.predict(predictor, 1, 8, 1);
                Rows.decodesTo("TAG " + tag, x, Rows.of());
                Rows.hasFault("TAG " + tag, x, 0, TAG, 4);
            }
        }
    }

    /** "rows before are the result": none. */
    private static void wrongInTheFirstRow() {
        StreamFilters x = over(Rows.of(5, 1, 2, 0, 3, 4), 10, 1, 8, 2);
        Rows.decodesTo("the first row's TAG", x, Rows.of());
        Check.same("the first row's TAG", x.fault(1), TAG);
    }

    /** "rows before are the result": undone, and none of those behind. */
    private static void rowsBefore() {
        for (int wrong = 0; wrong < 5; wrong++) {
            byte[] bytes = Rows.of(2, 1, 1, 2, 1, 1, 2, 1, 1, 2, 1, 1, 2, 1, 1);
            bytes[3 * wrong] = 5;
            StreamFilters x = over(bytes, 10, 1, 8, 2);
            Rows.decodesTo("row " + wrong, x, Arrays.copyOf(Rows.of(1, 1, 2, 2, 3, 3, 4, 4), 2 * wrong));
            Rows.hasFault("row " + wrong, x, 0, TAG, Streams.lengthsOf(bytes).length);
        }
    }

    /** The last row is a TAG and no more: it is looked at like others. */
    private static void wrongTagAlone() {
        StreamFilters x = over(Rows.of(0, 1, 2, 5), 10, 1, 8, 2);
        Rows.decodesTo("a wrong TAG alone", x, Rows.of(1, 2));
        Check.same("a wrong TAG alone", x.fault(1), TAG);
    }

    /** "its place is how many bytes the filter had begun to read in all": up to its end, and nothing behind. */
    private static void placeOfATag() {
        StreamFilters x = Rows.loaded(Rows.ofText("0001 0502 0003 >00"), Filtered.DIGITS);
        x.predict(10, 1, 8, 1);
        Rows.decodesTo("its place", x, Rows.of(1));
        Rows.hasFault("its place", x, 0, TAG, 16);
    }

    /** "unless the filter has a fault itself": then that is the fault, and rows before are the result all the same. */
    private static void ownFaultGoesFirst() {
        StreamFilters x = Rows.loaded(Rows.ofText("0001 0502 0003 ?"), Filtered.DIGITS);
        x.predict(10, 1, 8, 1);
        Rows.decodesTo("a SIGN behind it", x, Rows.of(1));
        Rows.hasFault("a SIGN behind it", x, 0, StreamFilters.SIGN, 16);
        x.cut(9);
        Rows.decodesTo("it ENDS behind it", x, Rows.of(1));
        Rows.hasFault("it ENDS behind it", x, 0, StreamFilters.ENDS, 9);
        x.budget(3);
        Rows.decodesTo("it is OVER behind it", x, Rows.of(1));
        Rows.hasFault("it is OVER behind it", x, 0, StreamFilters.OVER, 9);
        x.budget(2);
        Rows.decodesTo("it is OVER before it", x, Rows.of(1));
        Rows.hasFault("it is OVER before it", x, 0, StreamFilters.OVER, 7);
    }

    /** A fault like others: the next filter does not run. */
    private static void wrongTagStopsTheChain() {
        StreamFilters x = Rows.loaded(Rows.ofText("00340031003E0500>"), Filtered.DIGITS);
        x.predict(10, 1, 8, 1);
        x.filter(Filtered.DIGITS, 0);
        Rows.decodesTo("a wrong TAG in a chain", x, Rows.ofText("41>"));
        Rows.hasFault("a wrong TAG in a chain", x, 0, TAG, 17);
        x.put(13, '4');
        Rows.decodesTo("a good one", x, Rows.of(0x41));
        Rows.hasNoFault("a good one", x);
    }
}
