import java.util.Arrays;
import java.util.Random;
import java.util.zip.Deflater;

/** Promise 9, FLATE: its blocks, its codes, its faults and their places. */
final class FlateTest {
    private FlateTest() {
    }

    public static void main(String[] args) {
        packedByTheLibrary();
        everyLength();
        everyDistance();
        header();
        blocks();
        stored();
        fixedSymbols();
        far();
        check();
        headOfCodes();
        lengthCodes();
        repeats();
        codes();
        ends();
        over();
        Check.end();
    }

    private static StreamFilters flate(byte[] row) {
        return Rows.loaded(row, 0);
    }

    /** The stream gives these bytes and then has this fault at this place. */
    private static void faulty(String what, byte[] row, byte[] due, int fault, int place) {
        StreamFilters x = flate(row);
        Rows.decodesTo(what, x, due);
        Rows.hasFault(what, x, 0, fault, place);
    }

    private static void good(String what, byte[] row, byte[] due) {
        StreamFilters x = flate(row);
        Rows.decodesTo(what, x, due);
        Rows.hasNoFault(what, x);
    }

    private static void packedByTheLibrary() {
        Random random = new Random(1);
        int[] sizes = {0, 1, 2, 100, 1000, 3000};
        for (int size : sizes) {
            for (int values : new int[] {1, 2, 7, 256}) {
                byte[] bytes = new byte[size];
                for (int i = 0; i < size; i++) {
                    bytes[i] = (byte) random.nextInt(values);
                }
                for (int level = 0; level <= 9; level += 3) {
                    for (int strategy : new int[] {Deflater.DEFAULT_STRATEGY, Deflater.FILTERED, Deflater.HUFFMAN_ONLY}) {
                        good("library " + size + " " + values + " " + level + " " + strategy,
                                Streams.flateOf(bytes, level, strategy), bytes);
                    }
                }
            }
        }
        good("library: the longest result", Streams.flateOf(new byte[65536], 9, 0), new byte[65536]);
        StreamFilters x = flate(Streams.flateOf(new byte[65537], 9, 0));
        Rows.decodesTo("library: one more than there can be", x, new byte[65536]);
        Check.same("library: one more than there can be", x.fault(1), StreamFilters.OVER);
    }

    private static void everyLength() {
        int[] starts = {3, 4, 5, 6, 7, 8, 9, 10, 11, 13, 15, 17, 19, 23, 27, 31, 35, 43, 51, 59,
            67, 83, 99, 115, 131, 163, 195, 227};
        for (int i = 0; i < 28; i++) {
            int bits = i < 8 ? 0 : i / 4 - 1;
            copied("length " + i, 257 + i, 0, bits, starts[i]);
            copied("length " + i + ", highest", 257 + i, (1 << bits) - 1, bits, starts[i] + (1 << bits) - 1);
        }
        copied("length 28", 285, 0, 0, 258);
    }

    private static void copied(String what, int symbol, int more, int bits, int due) {
        byte[] bytes = new byte[due + 3];
        for (int i = 0; i < bytes.length; i++) {
            bytes[i] = (byte) (i == bytes.length - 1 ? 200 : i % 2 == 0 ? 65 : 66);
        }
        Streams.Bits bits2 = new Streams.Bits().lowNumber(3, 3).fixed(65).fixed(66)
                .fixed(symbol).lowNumber(more, bits).fixedDistance(1).fixed(200).fixed(256);
        good(what, Streams.flateAround(bits2, bytes), bytes);
    }

    private static void everyDistance() {
        byte[] bytes = new byte[65536];
        Random random = new Random(2);
        Streams.Bits bits = new Streams.Bits().lowNumber(3, 3);
        int known = 0;
        for (; known < 300; known++) {
            int literal = random.nextInt(256);
            bits.fixed(literal);
            bytes[known] = (byte) literal;
        }
        while (known < 32768) {
            int distance = 129 + random.nextInt(64);
            bits.fixed(285).fixedDistance(14).lowNumber(distance - 129, 6);
            known = again(bytes, known, distance, 258);
            int literal = random.nextInt(256);
            bits.fixed(literal);
            bytes[known++] = (byte) literal;
        }
        int start = 1;
        for (int symbol = 0; symbol < 30; symbol++) {
            int extra = symbol < 4 ? 0 : symbol / 2 - 1;
            for (int more : new int[] {0, (1 << extra) - 1}) {
                bits.fixed(260).fixedDistance(symbol).lowNumber(more, extra);
                known = again(bytes, known, start + more, 6);
            }
            start += 1 << extra;
        }
        Check.same("distances: the farthest", start - 1, 32768);
        bits.fixed(256);
        byte[] due = Arrays.copyOf(bytes, known);
        byte[] row = Streams.flateAround(bits, due);
        StreamFilters x = flate(row);
        Rows.decodesTo("distances", x, due);
        Rows.hasNoFault("distances", x);
        for (int i = known - 100; i < known; i++) {
            Check.same("distances: at(" + i + ")", x.at(i), due[i] & 255);
        }
    }

    private static int again(byte[] bytes, int known, int distance, int length) {
        for (int i = 0; i < length; i++) {
            bytes[known + i] = bytes[known + i - distance];
        }
        return known + length;
    }

    private static void header() {
        byte[] rest = Streams.flateOf(Rows.ofText("abc"), 9, 0);
        for (int c = 0; c < 256; c++) {
            int f = (31 - c * 256 % 31) % 31;
            rest[0] = (byte) c;
            rest[1] = (byte) f;
            StreamFilters x = flate(rest);
            x.decode();
            boolean isGood = c % 16 == 8 && c < 128;
            Check.same("header " + c, x.fault(1), isGood ? StreamFilters.NONE : StreamFilters.HEADER);
            Check.same("header " + c, x.fault(2), isGood ? StreamFilters.NONE : 2);
        }
        for (int f = 0; f < 256; f++) {
            rest[0] = 0x78;
            rest[1] = (byte) f;
            StreamFilters x = flate(rest);
            x.decode();
            boolean isGood = (0x7800 + f) % 31 == 0 && f / 32 % 2 == 0;
            Check.same("header 78, " + f, x.fault(1), isGood ? StreamFilters.NONE : StreamFilters.HEADER);
        }
        faulty("header: none", Rows.of(), Rows.of(), StreamFilters.ENDS, 0);
        faulty("header: one byte", Rows.of(0), Rows.of(), StreamFilters.ENDS, 1);
        faulty("header: both", Rows.of(0, 0), Rows.of(), StreamFilters.HEADER, 2);
        faulty("header: alone", Rows.of(0x78, 0x9C), Rows.of(), StreamFilters.ENDS, 2);
    }

    private static void blocks() {
        faulty("type 3", Blocks.withHeader(new Streams.Bits().lowNumber(6, 3)), Rows.of(), StreamFilters.BLOCK, 3);
        faulty("type 3, the last", Blocks.withHeader(new Streams.Bits().lowNumber(7, 3)), Rows.of(), StreamFilters.BLOCK, 3);
        // 3 + 8 + 8 + 7 bits, then three more that reach into the next byte only after 32
        Streams.Bits bits = new Streams.Bits().lowNumber(2, 3).fixed(65).fixed(66).fixed(256).lowNumber(7, 3);
        faulty("type 3, second block", Blocks.withHeader(bits), Rows.ofText("AB"), StreamFilters.BLOCK, 6);
        bits = new Streams.Bits().lowNumber(2, 3).fixed(150).fixed(65).fixed(66).fixed(256).lowNumber(2, 3)
                .fixed(67).fixed(256).lowNumber(6, 3);
        faulty("type 3, third block, in two bytes", Blocks.withHeader(bits), Rows.of(150, 65, 66, 67), StreamFilters.BLOCK,
                2 + (bits.length() + 7) / 8);
        bits = new Streams.Bits().lowNumber(2, 3).fixed(65).fixed(256).lowNumber(0, 3).wholeByte()
                .lowNumber(2, 16).lowNumber(65533, 16).lowNumber(66, 8).lowNumber(67, 8)
                .lowNumber(3, 3).fixed(257).fixedDistance(2).fixed(256);
        good("three blocks; a copy from the one before", Streams.flateAround(bits, Rows.ofText("ABCABC")),
                Rows.ofText("ABCABC"));
        bits = new Streams.Bits().lowNumber(3, 3).fixed(256);
        byte[] empty = Streams.flateAround(bits, Rows.of());
        good("nothing in it", empty, Rows.of());
        good("something behind it", Rows.joined(empty, Rows.of(1, 2, 3)), Rows.of());
    }

    private static void stored() {
        Streams.Bits bits = new Streams.Bits().lowNumber(1, 3).wholeByte().lowNumber(0, 16).lowNumber(65535, 16);
        good("stored: no bytes", Streams.flateAround(bits, Rows.of()), Rows.of());
        // what is left of the byte may hold anything
        bits = new Streams.Bits().lowNumber(1 + 31 * 8, 8).lowNumber(1, 16).lowNumber(65534, 16).lowNumber(77, 8);
        good("stored: one byte", Streams.flateAround(bits, Rows.of(77)), Rows.of(77));
        for (int wrong = 0; wrong < 16; wrong++) {
            bits = new Streams.Bits().lowNumber(1, 8).lowNumber(5, 16).lowNumber(65530 ^ 1 << wrong, 16).lowNumber(0, 64);
            faulty("stored: bit " + wrong, Blocks.withHeader(bits), Rows.of(), StreamFilters.STORED, 7);
        }
        for (int many = 0; many < 3; many++) {
            bits = new Streams.Bits().lowNumber(1, 8).lowNumber(0, 8 * many);
            faulty("stored: it ends", Blocks.withHeader(bits), Rows.of(), StreamFilters.ENDS, 3 + many);
        }
        bits = new Streams.Bits().lowNumber(1, 8).lowNumber(3, 16).lowNumber(65532, 16).lowNumber(7, 8).lowNumber(8, 8);
        faulty("stored: its bytes end", Blocks.withHeader(bits), Rows.of(7, 8), StreamFilters.ENDS, 9);
    }

    private static void fixedSymbols() {
        for (int symbol = 286; symbol < 288; symbol++) {
            Streams.Bits bits = new Streams.Bits().lowNumber(3, 3).fixed(65).fixed(symbol);
            faulty("literal " + symbol, Rows.joined(Blocks.withHeader(bits), new byte[9]), Rows.of(65),
                    StreamFilters.SYMBOL, 5);
        }
        for (int symbol = 30; symbol < 32; symbol++) {
            Streams.Bits bits = new Streams.Bits().lowNumber(3, 3).fixed(65).fixed(257).fixedDistance(symbol);
            faulty("distance " + symbol, Rows.joined(Blocks.withHeader(bits), new byte[9]), Rows.of(65),
                    StreamFilters.SYMBOL, 5);
        }
        byte[] all = new byte[256];
        Streams.Bits bits = new Streams.Bits().lowNumber(3, 3);
        for (int i = 0; i < 256; i++) {
            all[i] = (byte) i;
            bits.fixed(i);
        }
        good("every literal", Streams.flateAround(bits.fixed(256), all), all);
    }

    private static void far() {
        Streams.Bits bits = new Streams.Bits().lowNumber(3, 3).fixed(257).fixedDistance(0);
        faulty("far: nothing is there", Blocks.withHeader(bits), Rows.of(), StreamFilters.FAR, 4);
        bits = new Streams.Bits().lowNumber(3, 3).fixed(65).fixed(66).fixed(257).fixedDistance(2);
        faulty("far: by one", Blocks.withHeader(bits), Rows.of(65, 66), StreamFilters.FAR, 2 + 4);
        // the further bits are read before, 31 + 3 of them
        bits = new Streams.Bits().lowNumber(3, 3).fixed(65).fixed(66).fixed(257).fixedDistance(8).lowNumber(0, 3);
        faulty("far: further bits", Blocks.withHeader(bits), Rows.of(65, 66), StreamFilters.FAR, 2 + 5);
    }

    private static void check() {
        byte[] row = Streams.flateOf(Rows.ofText("hello"), 9, 0);
        for (int i = 1; i <= 4; i++) {
            byte[] wrong = row.clone();
            wrong[row.length - i] ^= 16;
            faulty("check", wrong, Rows.ofText("hello"), StreamFilters.CHECK, row.length);
        }
        byte[] high = new byte[6000];
        Arrays.fill(high, (byte) 255);
        good("check: both sums go round", Streams.flateOf(high, 9, 0), high);
    }

    private static void headOfCodes() {
        faulty("286 literals and 30 distances", Blocks.withHeader(Blocks.codesHead(286, 30, 4)), Rows.of(),
                StreamFilters.ENDS, 5);
        faulty("287 literals", Rows.joined(Blocks.withHeader(Blocks.codesHead(287, 1, 4)), new byte[5]), Rows.of(),
                StreamFilters.CODES, 5);
        faulty("288 literals", Rows.joined(Blocks.withHeader(Blocks.codesHead(288, 1, 4)), new byte[5]), Rows.of(),
                StreamFilters.CODES, 5);
        faulty("31 distances", Rows.joined(Blocks.withHeader(Blocks.codesHead(257, 31, 4)), new byte[5]), Rows.of(),
                StreamFilters.CODES, 5);
        faulty("32 distances", Rows.joined(Blocks.withHeader(Blocks.codesHead(257, 32, 4)), new byte[5]), Rows.of(),
                StreamFilters.CODES, 5);
        byte[] cut = Arrays.copyOf(Blocks.withHeader(Blocks.codesHead(288, 32, 4)), 4);
        faulty("288 literals, and it ends", cut, Rows.of(), StreamFilters.ENDS, 4);
    }

    private static void lengthCodes() {
        // 17 + 57 bits are 9.25 bytes: the fault is there, whatever follows
        badLengthCodes("no codes of lengths");
        badLengthCodes("one code of lengths, of length 2", 0, 2);
        badLengthCodes("two codes of lengths, not complete", 0, 1, 1, 2);
        badLengthCodes("three codes of lengths, too many", 0, 1, 1, 1, 2, 1);
        badLengthCodes("complete, and one more", 0, 1, 1, 2, 2, 2, 18, 7);
        // one of length 1: with the other bit there is no such code
        Streams.Bits bits = Blocks.orderLengths(Blocks.codesHead(257, 1, 19), 19, 18, 1).code("1");
        faulty("one code of lengths, the other bit", Blocks.withHeader(bits), Rows.of(), StreamFilters.SYMBOL, 12);
        // 138 and 120 times 0 are 258 lengths: then 256 has none
        bits = Blocks.orderLengths(Blocks.codesHead(257, 1, 19), 19, 18, 1).code("0").lowNumber(127, 7).code("0")
                .lowNumber(109, 7);
        faulty("one code of lengths: no literals", Blocks.withHeader(bits), Rows.of(), StreamFilters.CODES,
                2 + (bits.length() + 7) / 8);
        bits = Blocks.orderLengths(Blocks.codesHead(257, 1, 5), 4, 18, 1);
        faulty("codes of lengths end", Blocks.withHeader(bits), Rows.of(), StreamFilters.ENDS, 2 + 4);
    }

    private static void badLengthCodes(String what, int... pairs) {
        Streams.Bits bits = Blocks.orderLengths(Blocks.codesHead(257, 1, 19), 19, pairs);
        faulty(what, Rows.joined(Blocks.withHeader(bits), new byte[8]), Rows.of(), StreamFilters.CODES, 2 + 10);
    }

    private static void repeats() {
        Streams.Bits bits = Blocks.withRepeats(257, 1).code("110").lowNumber(0, 2);
        faulty("16, and none before", Rows.joined(Blocks.withHeader(bits), new byte[5]), Rows.of(), StreamFilters.CODES,
                Blocks.placeOf(bits));
        // 138 + 110 + 8 are 256, then 1 for 256, and 1 for the distance
        bits = Blocks.withRepeats(257, 1).code("1111").lowNumber(127, 7).code("1111").lowNumber(99, 7)
                .code("1110").lowNumber(5, 3).code("10").code("10").code("0");
        good("17 and 18", Streams.flateAround(bits, Rows.of()), Rows.of());
        // one too many: 256 times 0, one 1, and then 16 for the one that is left
        bits = Blocks.withRepeats(257, 1).code("1111").lowNumber(127, 7).code("1111").lowNumber(107, 7)
                .code("10").code("110").lowNumber(0, 2);
        faulty("16, more than there are", Rows.joined(Blocks.withHeader(bits), new byte[5]), Rows.of(),
                StreamFilters.CODES, Blocks.placeOf(bits));
        bits = Blocks.withRepeats(257, 2).code("1111").lowNumber(127, 7).code("1111").lowNumber(107, 7)
                .code("10").code("1110").lowNumber(0, 3);
        faulty("17, more than there are", Rows.joined(Blocks.withHeader(bits), new byte[5]), Rows.of(),
                StreamFilters.CODES, Blocks.placeOf(bits));
        bits = Blocks.withRepeats(257, 10).code("1111").lowNumber(127, 7).code("1111").lowNumber(107, 7)
                .code("10").code("1111").lowNumber(0, 7);
        faulty("18, more than there are", Rows.joined(Blocks.withHeader(bits), new byte[5]), Rows.of(),
                StreamFilters.CODES, Blocks.placeOf(bits));
        bits = Blocks.withRepeats(257, 2).code("1111").lowNumber(127, 7).code("1111").lowNumber(107, 7)
                .code("10").code("10").code("10").code("0");
        good("two distances of length 1", Streams.flateAround(bits, Rows.of()), Rows.of());
        bits = Blocks.withRepeats(257, 3).code("1111").lowNumber(127, 7).code("1111").lowNumber(107, 7)
                .code("10").code("110").lowNumber(0, 2);
        faulty("16 from literals to distances: three of length 1", Rows.joined(Blocks.withHeader(bits), new byte[5]),
                Rows.of(), StreamFilters.CODES, Blocks.placeOf(bits));
    }

    private static void badCodes(String what, Streams.Bits bits) {
        faulty(what, Rows.joined(Blocks.withHeader(bits), new byte[4]), Rows.of(), StreamFilters.CODES,
                Blocks.placeOf(bits));
    }

    private static void codes() {
        badCodes("literals: 256 has none", Blocks.withLengths(257, 1, 65, 1, 66, 1));
        badCodes("literals: one, of length 2", Blocks.withLengths(257, 1, 256, 2));
        badCodes("literals: not complete", Blocks.withLengths(257, 1, 65, 2, 66, 2, 256, 2));
        badCodes("literals: too many", Blocks.withLengths(257, 1, 65, 1, 66, 1, 256, 1));
        badCodes("distances: one, of length 2", Blocks.withLengths(257, 1, 65, 1, 256, 1, 257, 2));
        badCodes("distances: not complete", Blocks.withLengths(257, 3, 65, 1, 256, 1, 257, 2, 258, 2, 259, 2));
        badCodes("distances: too many", Blocks.withLengths(257, 3, 65, 1, 256, 1, 257, 1, 258, 1, 259, 1));

        good("literals: one, of length 1", Streams.flateAround(Blocks.withLengths(257, 1, 256, 1).code("0"), Rows.of()),
                Rows.of());
        Streams.Bits bits = Blocks.withLengths(257, 1, 256, 1).code("1");
        faulty("literals: one, the other bit", Blocks.withHeader(bits), Rows.of(), StreamFilters.SYMBOL,
                Blocks.placeOf(bits));

        // 65: 0, 256: 10, 257: 11; distances: one, of length 1
        bits = Blocks.withLengths(258, 1, 65, 1, 256, 2, 257, 2, 258, 1).code("0").code("11").code("0").code("10");
        good("distances: one, of length 1", Streams.flateAround(bits, Rows.ofText("AAAA")), Rows.ofText("AAAA"));
        bits = Blocks.withLengths(258, 1, 65, 1, 256, 2, 257, 2, 258, 1).code("0").code("11").code("1");
        faulty("distances: one, the other bit", Rows.joined(Blocks.withHeader(bits), new byte[2]), Rows.ofText("A"),
                StreamFilters.SYMBOL, Blocks.placeOf(bits));

        bits = Blocks.withLengths(258, 1, 65, 1, 256, 2, 257, 2).code("0").code("10");
        good("distances: none, and none is needed", Streams.flateAround(bits, Rows.ofText("A")), Rows.ofText("A"));
        for (int many = 0; many < 8; many++) {
            bits = Blocks.withLengths(258, 1, 65, 1, 256, 2, 257, 2).code("0".repeat(many)).code("11");
            faulty("distances: none, and one is needed", Blocks.withHeader(bits), Rows.ofText("A".repeat(many)),
                    StreamFilters.SYMBOL, Blocks.placeOf(bits));
        }

        // all lengths from 1 to 15: n has n - 1 ones and a 0, but the last one
        int[] pairs = new int[32];
        for (int i = 0; i < 15; i++) {
            pairs[2 * i] = i;
            pairs[2 * i + 1] = i + 1;
        }
        pairs[30] = 256;
        pairs[31] = 15;
        bits = Blocks.withLengths(257, 1, pairs);
        byte[] due = new byte[15];
        for (int i = 0; i < 15; i++) {
            due[i] = (byte) i;
            bits.code("1".repeat(i)).code("0");
        }
        good("lengths up to 15", Streams.flateAround(bits.code("1".repeat(15)), due), due);
    }

    private static void ends() {
        byte[] text = Rows.ofText("the chain of the filters, the filters of the chain, and a chain more of the filters");
        for (int level : new int[] {0, 1, 9}) {
            byte[] row = Streams.flateOf(text, level, 0);
            int before = 0;
            for (int many = 0; many < row.length; many++) {
                StreamFilters x = flate(Arrays.copyOf(row, many));
                int given = x.decode();
                Rows.hasFault("it ends after " + many, x, 0, StreamFilters.ENDS, many);
                Rows.looksLike("it ends after " + many, x, Arrays.copyOf(text, given));
                Check.isTrue("it gives not less", given >= before);
                before = given;
            }
            Check.same("all but the check: everything is given", before, text.length);
        }
    }

    private static void over() {
        // a literal, a copy of 10, a literal; 3 + 8 + 7 + 5 + 8 + 7 bits
        byte[] due = Rows.ofText("AAAAAAAAAAAB");
        Streams.Bits bits = new Streams.Bits().lowNumber(3, 3).fixed(65).fixed(264).fixedDistance(0).fixed(66).fixed(256);
        byte[] row = Streams.flateAround(bits, due);
        for (int budget = 0; budget <= 12; budget++) {
            StreamFilters x = flate(row);
            x.budget(budget);
            Rows.decodesTo("budget " + budget, x, Arrays.copyOf(due, budget));
            if (budget == 12) {
                Rows.hasNoFault("budget 12", x);
            } else {
                Rows.hasFault("budget " + budget, x, 0, StreamFilters.OVER, 2 + (budget == 0 ? 2 : budget < 11 ? 3 : 4));
            }
        }
        // of stored bytes the one that is too many has been read
        bits = new Streams.Bits().lowNumber(1, 8).lowNumber(3, 16).lowNumber(65532, 16).lowNumber(0x030201, 24);
        StreamFilters x = flate(Streams.flateAround(bits, Rows.of(1, 2, 3)));
        x.budget(2);
        Rows.decodesTo("stored, budget 2", x, Rows.of(1, 2));
        Rows.hasFault("stored, budget 2", x, 0, StreamFilters.OVER, 10);
        x.cut(9);
        Rows.decodesTo("stored, budget 2, and it ends", x, Rows.of(1, 2));
        Rows.hasFault("stored, budget 2, and it ends", x, 0, StreamFilters.ENDS, 9);
    }
}
