/** Writes blocks of FLATE bit by bit, for tests that spoil them at one place. */
final class Blocks {
    private static final int[] ORDER = {16, 17, 18, 0, 8, 7, 9, 6, 10, 5, 11, 4, 12, 3, 13, 2, 14, 1, 15};

    private Blocks() {
    }

    static byte[] withHeader(Streams.Bits bits) {
        return Rows.joined(Rows.of(0x78, 0x9C), bits.bytes());
    }

    /** The last block, of type 2, with its three numbers. */
    static Streams.Bits codesHead(int literals, int distances, int order) {
        return codesHead(new Streams.Bits().lowNumber(1, 1), literals, distances, order);
    }

    /** A block of type 2 behind these bits, the last of which says whether it is the last block. */
    static Streams.Bits codesHead(Streams.Bits bits, int literals, int distances, int order) {
        return bits.lowNumber(2, 2).lowNumber(literals - 257, 5).lowNumber(distances - 1, 5).lowNumber(order - 4, 4);
    }

    /** The three bits of each code of lengths; pairs of symbol and length. */
    static Streams.Bits orderLengths(Streams.Bits bits, int order, int... pairs) {
        int[] lengths = new int[19];
        for (int i = 0; i < pairs.length; i += 2) {
            lengths[pairs[i]] = pairs[i + 1];
        }
        for (int i = 0; i < order; i++) {
            bits.lowNumber(lengths[ORDER[i]], 3);
        }
        return bits;
    }

    /** Codes of lengths: 0 for 0, 10 for 1, 110 for 16, 1110 for 17, 1111 for 18. */
    static Streams.Bits withRepeats(int literals, int distances) {
        return orderLengths(codesHead(literals, distances, 19), 19, 0, 1, 1, 2, 16, 3, 17, 4, 18, 4);
    }

    /** The last block, of type 1, with so many bytes 65; it has no end yet. */
    static Streams.Bits filled(int many) {
        Streams.Bits bits = new Streams.Bits().lowNumber(3, 3);
        int left = many;
        while (left > 0 && (left == many || left < 3)) {
            bits.fixed(65);
            left--;
        }
        for (; left >= 258; left -= 258) {
            bits.fixed(285).fixedDistance(0);
        }
        for (; left >= 3; left -= 3) {
            bits.fixed(257).fixedDistance(0);
        }
        for (; left > 0; left--) {
            bits.fixed(65);
        }
        return bits;
    }

    /** How far a filter has begun to read when it has read the header and these bits. */
    static int placeOf(Streams.Bits bits) {
        return 2 + (bits.length() + 7) / 8;
    }

    /** A block of type 2 whose codes of lengths are 0 .. 15, each with four bits. */
    static Streams.Bits withLengths(int literals, int distances, int... pairs) {
        int[] lengths = new int[literals + distances];
        for (int i = 0; i < pairs.length; i += 2) {
            lengths[pairs[i]] = pairs[i + 1];
        }
        int[] fours = new int[32];
        for (int i = 0; i < 16; i++) {
            fours[2 * i] = i;
            fours[2 * i + 1] = 4;
        }
        Streams.Bits bits = orderLengths(codesHead(literals, distances, 19), 19, fours);
        for (int length : lengths) {
            bits.code(String.format("%4s", Integer.toBinaryString(length)).replace(' ', '0'));
        }
        return bits;
    }
}
