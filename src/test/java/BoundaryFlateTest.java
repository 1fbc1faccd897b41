import java.util.Arrays;

/**
 * The boundary cases that the sentences about FLATE name; each has a method of its own, and the sentence
 * stands above it.
 */
final class BoundaryFlateTest {
    private static final int ENDS = StreamFilters.ENDS;
    private static final int CODES = StreamFilters.CODES;
    private static final int SYMBOL = StreamFilters.SYMBOL;
    private static final byte[] NOTHING = {};

    private BoundaryFlateTest() {
    }

    public static void main(String[] args) {
        headers();
        blocks();
        stored();
        fixedCodes();
        headsOfCodes();
        lengthsOfCodes();
        repeats();
        goodCodes();
        symbols();
        lengths();
        distances();
        checks();
        Check.end();
    }

    private static Streams.Bits bits() {
        return new Streams.Bits();
    }

    private static void gives(String what, Streams.Bits bits, byte[] due) {
        Filtered.gives(what, Filtered.FLATE, Streams.flateAround(bits, due), due);
    }

    /** The fault comes as soon as these bits are read, whether something follows or not. */
    private static void stops(String what, Streams.Bits bits, byte[] due, int fault) {
        byte[] row = Blocks.withHeader(bits);
        Filtered.stops(what, Filtered.FLATE, row, due, fault, Blocks.placeOf(bits));
        if (fault != ENDS) {
            Filtered.stops(what + ", more follows", Filtered.FLATE, Rows.joined(row, Filtered.many(40, 0x5A)), due, fault,
                    Blocks.placeOf(bits));
        }
    }

    // The two bytes in front

    private static void headers() {
        headerNotWhole();
        headerMethod();
        headerWindow();
        headerMultiple();
        headerBit();
    }

    /** A header and an empty last block with its check. */
    private static byte[] around(int c, int f) {
        return Rows.of(c, f, 3, 0, 0, 0, 0, 1);
    }

    /** The lowest F that makes 256 C + F a multiple of 31; it is below 32. */
    private static int fitting(int c) {
        return (31 - 256 * c % 31) % 31;
    }

    /** "else HEADER (when both are read)": with one byte, however wrong it is, it only ENDS. */
    private static void headerNotWhole() {
        for (int c : new int[] {0x78, 0, 0x88, 255}) {
            Filtered.stops("C alone", Filtered.FLATE, Rows.of(c), NOTHING, ENDS, 1);
        }
        Filtered.stops("both, and no more", Filtered.FLATE, Rows.of(0x78, 0x9D), NOTHING, StreamFilters.HEADER, 2);
        Filtered.stops("both are good, and no more", Filtered.FLATE, Rows.of(0x78, 0x9C), NOTHING, ENDS, 2);
    }

    /** "C & 15 is 8". */
    private static void headerMethod() {
        for (int low = 0; low < 16; low++) {
            int c = 0x70 + low;
            header("C & 15 is " + low, c, fitting(c), low == 8);
        }
    }

    /** "C / 16 at most 7". */
    private static void headerWindow() {
        for (int high = 0; high < 16; high++) {
            int c = 16 * high + 8;
            header("C / 16 is " + high, c, fitting(c), high <= 7);
        }
    }

    /** "256 C + F a multiple of 31". */
    private static void headerMultiple() {
        for (int less = -30; less <= 30; less++) {
            header("a multiple of 31, and " + less, 0x78, 0x9C + less, less == 0);
        }
    }

    /** "and F & 32 is 0": all F that are good but for that. */
    private static void headerBit() {
        for (int f = 1; f < 256; f += 31) {
            header("F is " + f, 0x78, f, (f & 32) == 0);
        }
    }

    private static void header(String what, int c, int f, boolean good) {
        if (good) {
            Filtered.gives(what, Filtered.FLATE, around(c, f), NOTHING);
        } else {
            Filtered.stops(what, Filtered.FLATE, around(c, f), NOTHING, StreamFilters.HEADER, 2);
        }
    }

    // Blocks

    private static void blocks() {
        blockThatIsLast();
        blockOfTypeThree();
        blockHeadInTwoBytes();
    }

    /** "Then blocks, up to the one whose first bit is 1". */
    private static void blockThatIsLast() {
        Streams.Bits many = bits();
        for (int i = 0; i < 50; i++) {
            many.lowNumber(2, 3).fixed(65).fixed(256);
        }
        many.lowNumber(3, 3).fixed(66).fixed(256);
        gives("51 blocks", many, Rows.joined(Filtered.many(50, 65), Rows.of(66)));
        gives("one block", bits().lowNumber(3, 3).fixed(66).fixed(256), Rows.of(66));
        // 6 bits are left behind the block; none of them can be a block's head and an end
        stops("no block is the last", bits().lowNumber(2, 3).fixed(65).fixed(256).lowNumber(2, 3).lowNumber(0, 3),
                Rows.of(65), ENDS);
    }

    /** "3: BLOCK." */
    private static void blockOfTypeThree() {
        stops("type 3", bits().lowNumber(6, 3), NOTHING, StreamFilters.BLOCK);
        stops("type 3, the last", bits().lowNumber(7, 3), NOTHING, StreamFilters.BLOCK);
        stops("type 3 behind a block", bits().lowNumber(2, 3).fixed(65).fixed(256).lowNumber(7, 3), Rows.of(65),
                StreamFilters.BLOCK);
    }

    /** The three bits may lie in two bytes: the second one is begun, or it ENDS. */
    private static void blockHeadInTwoBytes() {
        // each literal of nine bits brings the head one bit farther into its byte
        for (int nines = 0; nines < 8; nines++) {
            Streams.Bits bits = bits().lowNumber(2, 3);
            byte[] due = Filtered.many(nines, 200);
            for (int i = 0; i < nines; i++) {
                bits.fixed(200);
            }
            bits.fixed(256);
            int before = bits.length();
            stops("type 3 behind " + before + " bits", bits.lowNumber(7, 3), due, StreamFilters.BLOCK);
            if (before % 8 == 0 || before % 8 > 5) {
                byte[] row = Arrays.copyOf(Blocks.withHeader(bits), 2 + (before + 7) / 8);
                Filtered.stops("its head ends behind " + before, Filtered.FLATE, row, due, ENDS, row.length);
            }
        }
    }

    // Type 0

    private static void stored() {
        storedNone();
        storedOneByteMore();
        storedNotItsMirror();
        storedNotWhole();
        storedLongest();
        storedBehindAWholeByte();
        storedLeftOver();
    }

    private static Streams.Bits stored(int n, int m) {
        return bits().lowNumber(1, 8).lowNumber(n, 16).lowNumber(m, 16);
    }

    /** n may be 0. */
    private static void storedNone() {
        gives("no bytes", stored(0, 65535), NOTHING);
        gives("twice no bytes", bits().lowNumber(0, 8).lowNumber(0, 16).lowNumber(65535, 16).lowNumber(1, 8)
                .lowNumber(0, 16).lowNumber(65535, 16), NOTHING);
    }

    /** "U16 n and U16 m (lowest byte first)": 255, 256 and 257 need both bytes. */
    private static void storedOneByteMore() {
        for (int n : new int[] {1, 255, 256, 257}) {
            Streams.Bits bits = stored(n, 65535 - n);
            for (int i = 0; i < n; i++) {
                bits.lowNumber(i, 8);
            }
            byte[] due = new byte[n];
            for (int i = 0; i < n; i++) {
                due[i] = (byte) i;
            }
            gives(n + " bytes", bits, due);
        }
    }

    /** "m being 65535 - n, else STORED". */
    private static void storedNotItsMirror() {
        int[][] wrong = {{0, 0}, {0, 65534}, {1, 65535}, {1, 65533}, {65535, 1}, {65535, 65535}, {256, 65534}, {1, 65279}};
        for (int[] pair : wrong) {
            stops("n " + pair[0] + ", m " + pair[1], stored(pair[0], pair[1]), NOTHING, StreamFilters.STORED);
        }
    }

    /** n and m wrong, but not all read: ENDS; of n bytes fewer are there: these come out. */
    private static void storedNotWhole() {
        for (int many = 0; many < 4; many++) {
            byte[] row = Arrays.copyOf(Blocks.withHeader(stored(7, 7)), 3 + many);
            Filtered.stops("n and m, " + many + " bytes", Filtered.FLATE, row, NOTHING, ENDS, 3 + many);
        }
        stops("n is 65535, and none is there", stored(65535, 0), NOTHING, ENDS);
        stops("n is 65535, and two are there", stored(65535, 0).lowNumber(8, 8).lowNumber(9, 8), Rows.of(8, 9), ENDS);
        stops("n is 3, and two are there", stored(3, 65532).lowNumber(8, 8).lowNumber(9, 8), Rows.of(8, 9), ENDS);
    }

    /** As many as a full row has room for. */
    private static void storedLongest() {
        int n = 16384 - 2 - 5 - 4;
        byte[] due = Filtered.many(n, 7);
        byte[] row = Rows.joined(Rows.of(0x78, 0x9C, 1, n & 255, n >> 8, ~n & 255, ~n >> 8 & 255), due);
        byte[] check = Streams.flateAround(bits(), due);
        row = Rows.joined(row, Arrays.copyOfRange(check, 2, 6));
        Check.same("a full row is stored", row.length, 16384);
        StreamFilters x = Filtered.longRow(row);
        x.filter(Filtered.FLATE, 0);
        Rows.decodesTo("a full row is stored", x, due);
        Rows.hasNoFault("a full row is stored", x);
        x.cut(16383);
        Rows.decodesTo("a full row but one", x, due);
        Rows.hasFault("a full row but one", x, 0, ENDS, 16383);
    }

    /** "what is left of the byte is passed over": nothing, if the three bits are its last ones. */
    private static void storedBehindAWholeByte() {
        Streams.Bits bits = bits().lowNumber(2, 3).fixed(200).fixed(201).fixed(202).fixed(256).lowNumber(1, 3);
        Check.same("the head ends with its byte", bits.length() % 8, 0);
        gives("nothing is passed over", bits.lowNumber(1, 16).lowNumber(65534, 16).lowNumber(9, 8),
                Rows.of(200, 201, 202, 9));
    }

    /** What is passed over may be anything: one bit, or five. */
    private static void storedLeftOver() {
        for (int left = 0; left < 32; left++) {
            gives("five bits are passed over", bits().lowNumber(1, 3).lowNumber(left, 5).lowNumber(1, 16)
                    .lowNumber(65534, 16).lowNumber(9, 8), Rows.of(9));
        }
        for (int left = 0; left < 2; left++) {
            Streams.Bits bits = bits().lowNumber(2, 3).fixed(200).fixed(201).fixed(256).lowNumber(1, 3).lowNumber(left, 1);
            Check.same("one bit was left", bits.length() % 8, 0);
            gives("one bit is passed over", bits.lowNumber(1, 16).lowNumber(65534, 16).lowNumber(9, 8),
                    Rows.of(200, 201, 9));
        }
    }

    // Type 1

    private static void fixedCodes() {
        fixedLiterals();
        fixedLengths();
        fixedDistances();
    }

    /** "lengths of codes are 8 for 0 .. 143, 9 for 144 .. 255, 7 for 256 .. 279": the first and last of each. */
    private static void fixedLiterals() {
        gives("literals at the edges", bits().lowNumber(3, 3).code("00110000").code("10111111").code("110010000")
                .code("111111111").code("0000000"), Rows.of(0, 143, 144, 255));
        stops("nine bits that end behind eight", bits().lowNumber(3, 3).code("10111111").lowNumber(7, 5), Rows.of(143),
                ENDS);
    }

    /** "7 for 256 .. 279, 8 for 280 .. 287": 279 is 99 .. 114, and 280 is 115 .. 130. */
    private static void fixedLengths() {
        gives("257", bits().lowNumber(3, 3).fixed(65).code("0000001").code("00000").code("0000000"), Filtered.many(4, 65));
        gives("279", bits().lowNumber(3, 3).fixed(65).code("0010111").lowNumber(15, 4).code("00000").code("0000000"),
                Filtered.many(115, 65));
        gives("280", bits().lowNumber(3, 3).fixed(65).code("11000000").lowNumber(0, 4).code("00000").code("0000000"),
                Filtered.many(116, 65));
        gives("285", bits().lowNumber(3, 3).fixed(65).code("11000101").code("00000").code("0000000"),
                Filtered.many(259, 65));
        stops("286", bits().lowNumber(3, 3).fixed(65).code("11000110"), Rows.of(65), SYMBOL);
        stops("287", bits().lowNumber(3, 3).fixed(65).code("11000111"), Rows.of(65), SYMBOL);
    }

    /** "for distances 5 for 0 .. 31"; "30, 31: SYMBOL". */
    private static void fixedDistances() {
        stops("29 is far", bits().lowNumber(3, 3).fixed(65).fixed(257).code("11101").lowNumber(0, 13), Rows.of(65),
                StreamFilters.FAR);
        stops("30", bits().lowNumber(3, 3).fixed(65).fixed(257).code("11110"), Rows.of(65), SYMBOL);
        stops("31", bits().lowNumber(3, 3).fixed(65).fixed(257).code("11111"), Rows.of(65), SYMBOL);
        // before anything is there to be far from
        stops("31 at once", bits().lowNumber(3, 3).fixed(257).code("11111"), NOTHING, SYMBOL);
    }

    // Type 2: the numbers in front

    private static void headsOfCodes() {
        mostLiteralsAndDistances();
        tooManyLiteralsOrDistances();
        fewestAndMostOfTheOrder();
        othersAreNone();
    }

    /** "with more than 286 or 30, CODES": 286 and 30 are good, and the last of them can be used. */
    private static void mostLiteralsAndDistances() {
        // 65: 0, 256: 10, 285: 11; distances 0: 0, 29: 1
        Streams.Bits bits = Blocks.withLengths(286, 30, 65, 1, 256, 2, 285, 2, 286, 1, 315, 1);
        gives("286 and 30", bits.code("0").code("11").code("0").code("10"), Filtered.many(259, 65));
        bits = Blocks.withLengths(286, 30, 65, 1, 256, 2, 285, 2, 286, 1, 315, 1).code("0").code("11").code("1")
                .lowNumber(0, 13);
        stops("286 and 30, the last distance", bits, Rows.of(65), StreamFilters.FAR);
        gives("257 and 1", Blocks.withLengths(257, 1, 65, 1, 256, 1).code("0").code("1"), Rows.of(65));
    }

    /** "with more than 286 or 30, CODES": when the three numbers have been read. */
    private static void tooManyLiteralsOrDistances() {
        stops("287 literals", Blocks.codesHead(287, 1, 4), NOTHING, CODES);
        stops("288 literals", Blocks.codesHead(288, 30, 19), NOTHING, CODES);
        stops("31 distances", Blocks.codesHead(257, 31, 4), NOTHING, CODES);
        stops("32 distances", Blocks.codesHead(286, 32, 19), NOTHING, CODES);
        stops("288 and 32", Blocks.codesHead(288, 32, 4), NOTHING, CODES);
        byte[] row = Arrays.copyOf(Blocks.withHeader(Blocks.codesHead(288, 32, 4)), 4);
        Filtered.stops("288 and 32, not all is read", Filtered.FLATE, row, NOTHING, ENDS, 4);
    }

    /** "four bits K + 4": 4 are the fewest, 19 the most. */
    private static void fewestAndMostOfTheOrder() {
        // of 16, 17, 18, 0 no length but 0 can come: 138 and 120 of them, and then there is no literal
        Streams.Bits bits = Blocks.orderLengths(Blocks.codesHead(257, 1, 4), 4, 0, 1, 18, 1);
        stops("4 of the order", bits.code("1").lowNumber(127, 7).code("1").lowNumber(109, 7), NOTHING, CODES);
        // the fifth is 8: 16 is 0, 0 is 10, 8 is 11; 1 .. 256 have eight bits each
        bits = Blocks.orderLengths(Blocks.codesHead(257, 1, 5), 5, 16, 1, 0, 2, 8, 2).code("10").code("11");
        for (int i = 0; i < 42; i++) {
            bits.code("0").lowNumber(3, 2);
        }
        bits.code("0").lowNumber(0, 2).code("10");
        gives("5 of the order", bits.code("01000000").code("00000000").code("11111110").code("11111111"),
                Rows.of(65, 1, 255));
        // the last one is 15: 0 is 0, 1 is 10, 15 is 11
        bits = Blocks.orderLengths(Blocks.codesHead(257, 2, 19), 19, 0, 1, 1, 2, 15, 2).code("0".repeat(256)).code("10");
        gives("19 of the order", bits.code("0").code("0").code("0"), NOTHING);
    }

    /** "(others: 0)": a block before had one for 15, and this one has none. */
    private static void othersAreNone() {
        Streams.Bits bits = bits().lowNumber(0, 1);
        Blocks.orderLengths(Blocks.codesHead(bits, 257, 1, 19), 19, 0, 1, 1, 2, 15, 2);
        bits.code("0".repeat(256)).code("10").code("0").code("0");
        bits.lowNumber(1, 1);
        Blocks.orderLengths(Blocks.codesHead(bits, 257, 1, 18), 18, 0, 1, 1, 1);
        bits.code("0".repeat(256)).code("1").code("0").code("0");
        gives("no 15 any more", bits, NOTHING);
    }

    // Type 2: codes for the lengths

    private static void lengthsOfCodes() {
        firstCodesGood();
        firstCodesBad();
        firstCodesNotWhole();
    }

    /** Complete up to 7 bits, the longest that three bits can tell. */
    private static void firstCodesGood() {
        // 0: 0, 1: 10, 2 .. 5: 110 .. 111110, 6: 1111110, 7: 1111111
        Streams.Bits bits = Blocks.orderLengths(Blocks.codesHead(257, 1, 19), 19,
                0, 1, 1, 2, 2, 3, 3, 4, 4, 5, 5, 6, 6, 7, 7, 7);
        bits.code("110").code("110").code("0".repeat(254)).code("10").code("0");
        gives("lengths up to 7", bits.code("10").code("11").code("0"), Rows.of(0, 1));
        // just one, of length 1: all lengths are 1, which is too many of them
        bits = Blocks.orderLengths(Blocks.codesHead(257, 1, 19), 19, 1, 1).code("0".repeat(258));
        stops("just one, of length 1", bits, NOTHING, CODES);
    }

    /** "They are good if they are complete, or there is just one, of length 1"; "as soon as these three bits are read". */
    private static void firstCodesBad() {
        badFirst("none");
        badFirst("just one, of length 2", 0, 2);
        badFirst("just one, of length 7", 0, 7);
        badFirst("two, one too few", 0, 1, 1, 2);
        badFirst("two of length 2", 0, 2, 1, 2);
        badFirst("three of length 1", 0, 1, 1, 1, 2, 1);
        badFirst("too few by the least", 0, 1, 1, 2, 2, 3, 3, 4, 4, 5, 5, 6, 6, 7);
        badFirst("too many by the least", 0, 1, 1, 2, 2, 3, 3, 4, 4, 5, 5, 6, 6, 7, 7, 7, 8, 7);
    }

    private static void badFirst(String what, int... pairs) {
        stops("codes for lengths: " + what, Blocks.orderLengths(Blocks.codesHead(257, 1, 19), 19, pairs), NOTHING, CODES);
    }

    /** Bad already, but not all of them are read: ENDS. */
    private static void firstCodesNotWhole() {
        Streams.Bits bits = Blocks.orderLengths(Blocks.codesHead(257, 1, 19), 19, 16, 1, 17, 1, 18, 1, 0, 1);
        byte[] row = Blocks.withHeader(bits);
        for (int many = 5; many < row.length; many++) {
            Filtered.stops("codes for lengths end", Filtered.FLATE, Arrays.copyOf(row, many), NOTHING, ENDS, many);
        }
        stops("codes for lengths, all read", bits, NOTHING, CODES);
    }

    // Type 2: the lengths in a row

    private static void repeats() {
        repeatedTimes();
        noneBefore();
        justAsManyAsThereAre();
        moreThanThereAre();
        fromLiteralsToDistances();
        repeatOfNone();
    }

    /** 256 lengths of 0 and one of 1: all literals, with just one code, 0, for 256. */
    private static Streams.Bits onlyTheEnd(int distances) {
        return Blocks.withRepeats(257, distances).code("1111").lowNumber(127, 7).code("1111").lowNumber(107, 7).code("10");
    }

    /** "16: the one before 3 times, and as often more as two bits say; 17: 0 three times, and three bits; 18: eleven". */
    private static void repeatedTimes() {
        // 138 + 11 + 10 + 3 of 17 and 18, a 0, six of 16 and three: that leaves 85 for 256
        Streams.Bits bits = Blocks.withRepeats(257, 1).code("1111").lowNumber(127, 7).code("1111").lowNumber(0, 7)
                .code("1110").lowNumber(7, 3).code("1110").lowNumber(0, 3).code("0").code("110").lowNumber(3, 2)
                .code("110").lowNumber(0, 2).code("1111").lowNumber(73, 7);
        gives("the fewest and the most times", bits.code("10").code("0").code("0"), NOTHING);
    }

    /** "With none before, CODES." */
    private static void noneBefore() {
        stops("16 at first", Blocks.withRepeats(257, 1).code("110").lowNumber(0, 2), NOTHING, CODES);
        stops("16 at first, six times", Blocks.withRepeats(286, 30).code("110").lowNumber(3, 2), NOTHING, CODES);
        // a block before has left its lengths, but they are not before
        Streams.Bits bits = bits().lowNumber(0, 1);
        Blocks.orderLengths(Blocks.codesHead(bits, 257, 1, 19), 19, 0, 1, 1, 2, 16, 3, 17, 4, 18, 4);
        bits.code("1111").lowNumber(127, 7).code("1111").lowNumber(107, 7).code("10").code("0").code("0").lowNumber(1, 1);
        Blocks.orderLengths(Blocks.codesHead(bits, 257, 1, 19), 19, 0, 1, 1, 2, 16, 3, 17, 4, 18, 4);
        stops("16 at first, in the second block", bits.code("110").lowNumber(0, 2), NOTHING, CODES);
    }

    /** As many as there are is not more. */
    private static void justAsManyAsThereAre() {
        gives("16 to the end", onlyTheEnd(4).code("0").code("110").lowNumber(0, 2).code("0"), NOTHING);
        gives("16 to the end, six times", onlyTheEnd(7).code("0").code("110").lowNumber(3, 2).code("0"), NOTHING);
        gives("17 to the end", onlyTheEnd(3).code("1110").lowNumber(0, 3).code("0"), NOTHING);
        gives("17 to the end, ten times", onlyTheEnd(10).code("1110").lowNumber(7, 3).code("0"), NOTHING);
        gives("18 to the end", onlyTheEnd(11).code("1111").lowNumber(0, 7).code("0"), NOTHING);
        gives("18 to the end, 30 times", onlyTheEnd(30).code("1111").lowNumber(19, 7).code("0"), NOTHING);
    }

    /** "or more than there are, CODES": one more. */
    private static void moreThanThereAre() {
        stops("16 and one more", onlyTheEnd(3).code("0").code("110").lowNumber(0, 2), NOTHING, CODES);
        stops("16, six times, and one more", onlyTheEnd(6).code("0").code("110").lowNumber(3, 2), NOTHING, CODES);
        stops("17 and one more", onlyTheEnd(2).code("1110").lowNumber(0, 3), NOTHING, CODES);
        stops("17, ten times, and one more", onlyTheEnd(9).code("1110").lowNumber(7, 3), NOTHING, CODES);
        stops("18 and one more", onlyTheEnd(10).code("1111").lowNumber(0, 7), NOTHING, CODES);
        stops("18, 31 times for 30", onlyTheEnd(30).code("1111").lowNumber(20, 7), NOTHING, CODES);
        stops("18, 138 times for one", onlyTheEnd(1).code("1111").lowNumber(127, 7), NOTHING, CODES);
    }

    /** "by these all the lengths, in a row": one repeat goes over from literals to distances. */
    private static void fromLiteralsToDistances() {
        // codes for lengths: 0: 0, 2: 10, 16: 110, 18: 111; four literals and four distances of length 2
        Streams.Bits bits = Blocks.orderLengths(Blocks.codesHead(258, 4, 19), 19, 0, 1, 2, 2, 16, 3, 18, 3);
        bits.code("111").lowNumber(127, 7).code("111").lowNumber(105, 7).code("10").code("10").code("10").code("110")
                .lowNumber(2, 2);
        // 254: 00, 255: 01, 256: 10, 257: 11; distance 3 is 11
        bits.code("00").code("01").code("00").code("01").code("11").code("11").code("10");
        gives("16 over both", bits, Rows.of(254, 255, 254, 255, 254, 255, 254));
        // 18 over both: the last literals and the only distance have none
        bits = Blocks.withRepeats(267, 1).code("1111").lowNumber(127, 7).code("1111").lowNumber(107, 7).code("10")
                .code("1111").lowNumber(0, 7);
        gives("18 over both", bits.code("0"), NOTHING);
    }

    /** "the one before" may be a 0 that 17 or 18 gave. */
    private static void repeatOfNone() {
        Streams.Bits bits = Blocks.withRepeats(257, 1).code("1111").lowNumber(127, 7).code("110").lowNumber(0, 2)
                .code("1110").lowNumber(0, 3).code("110").lowNumber(3, 2).code("1111").lowNumber(95, 7).code("10").code("0");
        gives("16 behind 17 and 18", bits.code("0"), NOTHING);
    }

    // Which codes are good

    private static void goodCodes() {
        literalsOrDistancesBad();
        codesUpToFifteen();
        justOne();
        noDistances();
        noEnd();
        badOnlyWhenAllAreRead();
    }

    /** "complete (the sum of 2 to the power of -length is 1)". */
    private static void literalsOrDistancesBad() {
        stops("literals: none", Blocks.withLengths(257, 1), NOTHING, CODES);
        stops("literals: just one, of length 2", Blocks.withLengths(257, 1, 256, 2), NOTHING, CODES);
        stops("literals: just one, of length 15", Blocks.withLengths(257, 1, 256, 15), NOTHING, CODES);
        stops("literals: two of length 2", Blocks.withLengths(257, 1, 0, 2, 256, 2), NOTHING, CODES);
        stops("literals: three of length 1", Blocks.withLengths(257, 1, 0, 1, 1, 1, 256, 1), NOTHING, CODES);
        stops("distances: just one, of length 2", Blocks.withLengths(257, 1, 256, 1, 257, 2), NOTHING, CODES);
        stops("distances: just one, of length 15", Blocks.withLengths(257, 30, 256, 1, 286, 15), NOTHING, CODES);
        stops("distances: two of length 2", Blocks.withLengths(257, 2, 256, 1, 257, 2, 258, 2), NOTHING, CODES);
        stops("distances: three of length 1", Blocks.withLengths(257, 3, 256, 1, 257, 1, 258, 1, 259, 1), NOTHING, CODES);
    }

    /** From a literal on: lengths 1, 2, .. 14 and so many times 15. */
    private static int[] upToFifteen(int from, int fifteens, int last) {
        int[] pairs = new int[2 * (14 + fifteens)];
        for (int i = 0; i < 14 + fifteens; i++) {
            pairs[2 * i] = i == 13 + fifteens ? last : from + i;
            pairs[2 * i + 1] = Math.min(15, i + 1);
        }
        return pairs;
    }

    /** The longest are 15 bits, and one of these makes the difference. */
    private static void codesUpToFifteen() {
        Streams.Bits bits = Blocks.withLengths(257, 1, upToFifteen(0, 2, 256));
        gives("literals: complete", bits.code("1".repeat(14)).code("0").code("1".repeat(15)), Rows.of(14));
        stops("literals: too few by the least", Blocks.withLengths(257, 1, upToFifteen(0, 1, 256)), NOTHING, CODES);
        stops("literals: too many by the least", Blocks.withLengths(257, 1, upToFifteen(0, 3, 256)), NOTHING, CODES);

        // 257: 0, 65: 10, 256: 11
        int[] literals = {257, 1, 256, 2, 65, 2};
        bits = Blocks.withLengths(258, 30, joined(literals, upToFifteen(258, 2, 287))).code("10").code("0").code("0")
                .code("11");
        gives("distances: complete", bits, Filtered.many(4, 65));
        bits = Blocks.withLengths(258, 30, joined(literals, upToFifteen(258, 2, 287))).code("10").code("0")
                .code("1".repeat(15));
        stops("distances: complete, the last one", bits.lowNumber(0, 13), Rows.of(65), StreamFilters.FAR);
        stops("distances: too few by the least", Blocks.withLengths(258, 30, joined(literals, upToFifteen(258, 1, 287))),
                NOTHING, CODES);
        stops("distances: too many by the least", Blocks.withLengths(258, 30, joined(literals, upToFifteen(258, 3, 287))),
                NOTHING, CODES);
    }

    private static int[] joined(int[] a, int[] b) {
        int[] both = Arrays.copyOf(a, a.length + b.length);
        System.arraycopy(b, 0, both, a.length, b.length);
        return both;
    }

    /** "or there is just one, of length 1". */
    private static void justOne() {
        gives("literals: just one", Blocks.withLengths(257, 1, 256, 1).code("0"), NOTHING);
        Streams.Bits bits = Blocks.withLengths(258, 30, 65, 1, 256, 2, 257, 2, 259, 1).code("0").code("0").code("11")
                .code("0");
        gives("distances: just one", bits.code("10"), Filtered.many(5, 65));
    }

    /** "for distances also if there are none". */
    private static void noDistances() {
        gives("distances: none of one", Blocks.withLengths(257, 1, 65, 1, 256, 1).code("0").code("1"), Rows.of(65));
        gives("distances: none of 30", Blocks.withLengths(257, 30, 65, 1, 256, 1).code("0").code("1"), Rows.of(65));
        // a block before had some
        Streams.Bits bits = bits().lowNumber(2, 3).fixed(65).fixed(257).fixedDistance(0).fixed(256).lowNumber(1, 1);
        Blocks.orderLengths(Blocks.codesHead(bits, 257, 1, 18), 18, 0, 1, 1, 1).code("0".repeat(256)).code("1").code("0");
        gives("distances: none behind a block that had some", bits.code("0"), Filtered.many(4, 65));
    }

    /** "literals have one for 256". */
    private static void noEnd() {
        stops("256 has none", Blocks.withLengths(257, 1, 0, 1, 255, 1), NOTHING, CODES);
        stops("256 has none, 257 has", Blocks.withLengths(258, 1, 255, 1, 257, 1), NOTHING, CODES);
        stops("256 has none, just one of length 1", Blocks.withLengths(257, 1, 255, 1), NOTHING, CODES);
    }

    /** "for the others when all lengths are, literals and distances". */
    private static void badOnlyWhenAllAreRead() {
        Streams.Bits bits = Blocks.withLengths(257, 30, 0, 1, 1, 1, 2, 1);
        byte[] row = Blocks.withHeader(bits);
        for (int less = 1; less <= 15; less++) {
            Filtered.stops("literals are bad, and distances end", Filtered.FLATE, Arrays.copyOf(row, row.length - less),
                    NOTHING, ENDS, row.length - less);
        }
        stops("literals are bad, and all are read", bits, NOTHING, CODES);
    }

    // Codes that are read

    private static void symbols() {
        otherBitOfJustOne();
        distanceNeededButNone();
        codeThatEnds();
    }

    /** "if there is none that does, SYMBOL": just one code, and the other bit comes. */
    private static void otherBitOfJustOne() {
        stops("codes for lengths", Blocks.orderLengths(Blocks.codesHead(257, 1, 19), 19, 0, 1).code("1"), NOTHING, SYMBOL);
        stops("literals", Blocks.withLengths(257, 1, 256, 1).code("1"), NOTHING, SYMBOL);
        for (int many = 1; many < 9; many++) {
            Streams.Bits bits = Blocks.withLengths(258, 1, 65, 1, 256, 2, 257, 2, 258, 1).code("0".repeat(many));
            stops("distances", bits.code("11").code("1"), Filtered.many(many, 65), SYMBOL);
        }
    }

    /** "as long as there is one that begins with these bits": of none no bit is read. */
    private static void distanceNeededButNone() {
        for (int many = 1; many < 9; many++) {
            Streams.Bits bits = Blocks.withLengths(258, 1, 65, 1, 256, 2, 257, 2).code("0".repeat(many)).code("11");
            stops("no distances, and one is needed", bits, Filtered.many(many, 65), SYMBOL);
        }
    }

    /** A code, or its further bits, that are not all there. */
    private static void codeThatEnds() {
        // 3 + 8 + 8 bits and 5 of 9; 3 + 8 + 8 and 5 bits of a distance's thirteen
        stops("a literal", bits().lowNumber(3, 3).fixed(65).fixed(66).code("11001"), Rows.of(65, 66), ENDS);
        stops("a length's further bits", bits().lowNumber(3, 3).fixed(65).fixed(66).fixed(284).lowNumber(0, 5),
                Rows.of(65, 66), ENDS);
        stops("a distance's further bits", bits().lowNumber(3, 3).fixed(65).fixed(66).fixed(67).fixed(285).fixedDistance(29),
                Rows.of(65, 66, 67), ENDS);
    }

    // Lengths and distances

    private static void lengths() {
        lengthsWithoutBits();
        lengthsWithBits();
    }

    /** "257 .. 264 are the lengths 3 .. 10"; "285 is 258 without bits". */
    private static void lengthsWithoutBits() {
        for (int symbol = 257; symbol <= 264; symbol++) {
            copied(symbol, 0, 0, symbol - 254);
        }
        copied(285, 0, 0, 258);
    }

    /** "from 265 on four each have 1, 2, 3, 4, 5 further bits; 265 at 11, each other one where the one before ends". */
    private static void lengthsWithBits() {
        int start = 11;
        for (int symbol = 265; symbol <= 284; symbol++) {
            int further = 1 + (symbol - 265) / 4;
            for (int more = 0; more < 1 << further; more++) {
                copied(symbol, more, further, start + more);
            }
            start += 1 << further;
        }
        Check.same("284 ends where 285 is", start, 259);
    }

    /** Behind it stands a literal of nine ones, so that a bit too many or too few would be seen. */
    private static void copied(int symbol, int more, int further, int due) {
        Streams.Bits bits = bits().lowNumber(3, 3).fixed(65).fixed(symbol).lowNumber(more, further).fixedDistance(0)
                .fixed(255).fixed(256);
        gives("the length " + due + " of " + symbol, bits, Rows.joined(Filtered.many(due + 1, 65), Rows.of(255)));
    }

    private static void distances() {
        justFarEnough();
        farBehindNothing();
        overlapping();
        farthest();
        mostBytes();
    }

    /** "FAR, if that is more than there is in the filter's output": the first and the last of each distance's code. */
    private static void justFarEnough() {
        int start = 1;
        for (int code = 0; code < 30; code++) {
            int further = code < 4 ? 0 : code / 2 - 1;
            for (int more : new int[] {0, (1 << further) - 1}) {
                int distance = start + more;
                Streams.Bits bits = Blocks.filled(distance).fixed(257).fixedDistance(code).lowNumber(more, further);
                gives("as far as there is: " + distance, bits.fixed(255).fixed(256),
                        Rows.joined(Filtered.many(distance + 3, 65), Rows.of(255)));
                bits = Blocks.filled(distance - 1).fixed(257).fixedDistance(code).lowNumber(more, further);
                stops("one farther: " + distance, bits, Filtered.many(distance - 1, 65), StreamFilters.FAR);
            }
            start += 1 << further;
        }
        Check.same("the farthest", start, 32769);
    }

    /** With nothing there every distance is FAR; its further bits are read before. */
    private static void farBehindNothing() {
        stops("1, and nothing is there", bits().lowNumber(3, 3).fixed(257).fixedDistance(0), NOTHING, StreamFilters.FAR);
        stops("32768, and nothing is there", bits().lowNumber(3, 3).fixed(285).fixedDistance(29).lowNumber(8191, 13),
                NOTHING, StreamFilters.FAR);
        byte[] row = Blocks.withHeader(bits().lowNumber(3, 3).fixed(285).fixedDistance(29).lowNumber(8191, 13));
        Filtered.stops("not all further bits", Filtered.FLATE, Arrays.copyOf(row, row.length - 1), NOTHING, ENDS,
                row.length - 1);
        // what a filter before has given is not this one's output
        Streams.Bits bits = bits().lowNumber(3, 3).fixed(257).fixedDistance(0);
        StreamFilters x = Rows.loaded(Streams.lengthsOf(Blocks.withHeader(bits)), Filtered.LENGTHS, Filtered.FLATE);
        x.decode();
        Rows.hasFault("another filter's output", x, 1, StreamFilters.FAR, 4);
    }

    /** "So many bytes are taken from that far back, one by one": they may be those that it gives itself. */
    private static void overlapping() {
        Streams.Bits bits = bits().lowNumber(3, 3).fixed(1).fixed(2).fixed(3).fixed(261).fixedDistance(2).fixed(256);
        gives("7 from 3 back", bits, Rows.of(1, 2, 3, 1, 2, 3, 1, 2, 3, 1));
        bits = bits().lowNumber(3, 3).fixed(1).fixed(2).fixed(3).fixed(257).fixedDistance(2).fixed(256);
        gives("3 from 3 back", bits, Rows.of(1, 2, 3, 1, 2, 3));
        bits = bits().lowNumber(3, 3).fixed(1).fixed(2).fixed(3).fixed(4).fixed(257).fixedDistance(3).fixed(256);
        gives("3 from 4 back", bits, Rows.of(1, 2, 3, 4, 1, 2, 3));
    }

    /** From 32,768 back come the very first bytes, also those of an earlier block. */
    private static void farthest() {
        Streams.Bits bits = bits().lowNumber(2, 3).fixed(9).fixed(65).fixed(256).lowNumber(3, 3);
        for (int i = 0; i < 127; i++) {
            bits.fixed(285).fixedDistance(0);
        }
        byte[] due = Filtered.many(32771, 65);
        due[0] = 9;
        due[32768] = 9;
        byte[] row = Streams.flateAround(bits.fixed(257).fixedDistance(29).lowNumber(8191, 13).fixed(256), due);
        StreamFilters x = Rows.loaded(row, Filtered.FLATE);
        Rows.decodesTo("32,768 back", x, due);
        Rows.hasNoFault("32,768 back", x);
        Check.same("32,768 back: at(32767)", x.at(32767), 65);
        Check.same("32,768 back: at(32768)", x.at(32768), 9);
        Check.same("32,768 back: at(32769)", x.at(32769), 65);
    }

    /** The result's 65,536 bytes, one more by a literal, and one more by a copy. */
    private static void mostBytes() {
        gives("65,536 bytes", Blocks.filled(65536).fixed(256), Filtered.many(65536, 65));
        stops("one more, a literal", Blocks.filled(65536).fixed(65), Filtered.many(65536, 65), StreamFilters.OVER);
        stops("one more, the last of a copy", Blocks.filled(65534).fixed(257).fixedDistance(0), Filtered.many(65536, 65),
                StreamFilters.OVER);
    }

    // The sums at the end

    private static void checks() {
        checkOfNothing();
        checkGoesRound();
        checkIsWrong();
        checkNotWhole();
        checkBehindAWholeByte();
    }

    /** "A is 1 and the sum of all bytes": of none A is 1 and B is 0. */
    private static void checkOfNothing() {
        byte[] row = Blocks.withHeader(bits().lowNumber(3, 3).fixed(256));
        Filtered.gives("of nothing", Filtered.FLATE, Rows.joined(row, Rows.of(0, 0, 0, 1)), NOTHING);
        Filtered.stops("of nothing, A is 0", Filtered.FLATE, Rows.joined(row, Rows.of(0, 0, 0, 0)), NOTHING,
                StreamFilters.CHECK, row.length + 4);
        Filtered.stops("of nothing, the lowest byte first", Filtered.FLATE, Rows.joined(row, Rows.of(1, 0, 0, 0)), NOTHING,
                StreamFilters.CHECK, row.length + 4);
    }

    /** "both modulo 65521": A is 65520, then 0, then 1; and the longest with the highest bytes. */
    private static void checkGoesRound() {
        for (int last : new int[] {239, 240, 241}) {
            Streams.Bits bits = bits().lowNumber(3, 3);
            for (int i = 0; i < 256; i++) {
                bits.fixed(255);
            }
            byte[] due = Rows.joined(Filtered.many(256, 255), Rows.of(last));
            byte[] row = Streams.flateAround(bits.fixed(last).fixed(256), due);
            int a = (row[row.length - 2] & 255) * 256 + (row[row.length - 1] & 255);
            Check.same("A behind " + last, a, (65281 + last) % 65521);
            Filtered.gives("A goes round behind " + last, Filtered.FLATE, row, due);
        }
        byte[] high = Filtered.many(65536, 255);
        Filtered.gives("both go round many times", Filtered.FLATE, Streams.flateOf(high, 9, 0), high);
    }

    /** "else CHECK": any one bit, the highest too; what came out is kept. */
    private static void checkIsWrong() {
        byte[] due = Filtered.many(300, 255);
        byte[] row = Streams.flateOf(due, 9, 0);
        for (int bit = 0; bit < 32; bit++) {
            byte[] wrong = row.clone();
            wrong[row.length - 1 - bit / 8] ^= (byte) (1 << bit % 8);
            Filtered.stops("bit " + bit, Filtered.FLATE, wrong, due, StreamFilters.CHECK, row.length);
        }
    }

    /** A wrong one that is not whole: ENDS. */
    private static void checkNotWhole() {
        byte[] row = Rows.joined(Blocks.withHeader(bits().lowNumber(3, 3).fixed(65).fixed(256)), Rows.of(9, 9, 9));
        for (int less = 0; less <= 3; less++) {
            byte[] cut = Arrays.copyOf(row, row.length - less);
            Filtered.stops("the sums end", Filtered.FLATE, cut, Rows.of(65), ENDS, cut.length);
        }
    }

    /** "Behind the last block, and what is left of its byte": nothing is left, or seven bits of whatever value. */
    private static void checkBehindAWholeByte() {
        Streams.Bits whole = bits().lowNumber(3, 3);
        byte[] due = Filtered.many(6, 200);
        for (int i = 0; i < 6; i++) {
            whole.fixed(200);
        }
        whole.fixed(256);
        Check.same("the block ends with its byte", whole.length() % 8, 0);
        gives("nothing is left of the byte", whole, due);
        Streams.Bits one = bits().lowNumber(3, 3);
        due = Filtered.many(7, 200);
        for (int i = 0; i < 7; i++) {
            one.fixed(200);
        }
        one.fixed(256);
        Check.same("the block has begun a byte", one.length() % 8, 1);
        gives("seven bits are left, all of them 1", one.lowNumber(127, 7), due);
    }
}
