import java.util.Arrays;

/** The boundary cases that the sentences about LZW name; each has a method of its own, and the sentence stands above it. */
final class BoundaryLzwTest {
    private static final int CODE = StreamFilters.CODE;
    private static final byte[] NOTHING = {};

    private BoundaryLzwTest() {
    }

    public static void main(String[] args) {
        highestBitFirst();
        lowestAndHighestByte();
        clearAtOnce();
        clearTakesTheStrings();
        clearOfWideCodes();
        endAtOnce();
        firstCodeMakesNone();
        stringOfItself();
        noSuchString();
        upToTheLastNumber();
        fullAndCleared();
        widths();
        earlyReadsOneBitMore();
        codeThatEnds();
        mostBytes();
        Check.end();
    }

    private static StreamFilters lzw(byte[] row, int early) {
        StreamFilters x = Rows.loaded(row);
        x.filter(Filtered.LZW, early);
        return x;
    }

    private static Streams.Bits nines(int... codes) {
        Streams.Bits bits = new Streams.Bits();
        for (int code : codes) {
            bits.highNumber(code, 9);
        }
        return bits;
    }

    /** With EARLY and without: as long as there are few strings that is the same. */
    private static void gives(String what, Streams.Bits bits, byte[] due) {
        for (int early = 0; early <= 1; early++) {
            StreamFilters x = lzw(bits.bytes(), early);
            Rows.decodesTo(what + ", early " + early, x, due);
            Rows.hasNoFault(what + ", early " + early, x);
        }
    }

    private static void stops(String what, Streams.Bits bits, byte[] due, int fault) {
        for (int early = 0; early <= 1; early++) {
            StreamFilters x = lzw(Rows.joined(bits.bytes(), new byte[fault == StreamFilters.ENDS ? 0 : 9]), early);
            Rows.decodesTo(what + ", early " + early, x, due);
            Rows.hasFault(what + ", early " + early, x, 0, fault, (bits.length() + 7) / 8);
        }
    }

    /** "from the highest bit of each byte on, the highest first, 9 bits at first". */
    private static void highestBitFirst() {
        StreamFilters x = lzw(Rows.of(0b00100000, 0b11000000, 0b01000000), 0);
        Rows.decodesTo("65 and the end", x, Rows.of(65));
        Rows.hasNoFault("65 and the end", x);
    }

    /** "up to 255 the byte". */
    private static void lowestAndHighestByte() {
        gives("0 and 255", nines(0, 255, 0, 255, 257), Rows.of(0, 255, 0, 255));
    }

    /** "256 CLEARS": at the very first, several times, and before the end. */
    private static void clearAtOnce() {
        gives("no clear", nines(65, 257), Rows.of(65));
        gives("a clear", nines(256, 65, 257), Rows.of(65));
        gives("only clears", nines(256, 256, 256, 257), NOTHING);
        gives("a clear before the end", nines(65, 256, 257), Rows.of(65));
    }

    /** "and there are no strings": the numbers begin at 258 again, and the code before is none. */
    private static void clearTakesTheStrings() {
        gives("258 is another one", nines(65, 66, 256, 67, 68, 258, 257), Rows.of(65, 66, 67, 68, 67, 68));
        stops("258 is none", nines(65, 66, 256, 258), Rows.of(65, 66), CODE);
        stops("258 is none, behind one code", nines(65, 256, 258), Rows.of(65), CODE);
        stops("259 is none", nines(65, 66, 67, 256, 68, 69, 260), Rows.of(65, 66, 67, 68, 69), CODE);
        stops("the first behind a clear makes none", nines(65, 66, 256, 67, 259), Rows.of(65, 66, 67), CODE);
    }

    /** So many codes 65, each as wide as the strings before it ask. */
    private static Streams.Bits manyOfOne(int many, int early) {
        Streams.Bits bits = new Streams.Bits();
        for (int i = 0; i < many; i++) {
            bits.highNumber(65, widthBehind(i, early));
        }
        return bits;
    }

    /** Behind so many codes the next number is 257 and they, up to 4096; behind none it is 258. */
    private static int widthBehind(int codes, int early) {
        int next = Math.min(4096, 257 + Math.max(1, codes));
        return next + early >= 2048 ? 12 : next + early >= 1024 ? 11 : next + early >= 512 ? 10 : 9;
    }

    /** "codes are 9 bits wide": from 10, 11 and 12 on. */
    private static void clearOfWideCodes() {
        for (int early = 0; early <= 1; early++) {
            for (int many : new int[] {300, 800, 2000, 3839, 3900}) {
                Streams.Bits bits = manyOfOne(many, early).highNumber(256, widthBehind(many, early));
                bits.highNumber(66, 9).highNumber(67, 9).highNumber(258, 9).highNumber(257, 9);
                StreamFilters x = lzw(bits.bytes(), early);
                Rows.decodesTo("a clear behind " + many, x, Rows.joined(Filtered.many(many, 65), Rows.of(66, 67, 66, 67)));
                Rows.hasNoFault("a clear behind " + many, x);
                Check.same("a clear behind " + many, x.at(many), 66);
            }
        }
    }

    /** "257 ends": the first of all too, and nothing behind it is looked at. */
    private static void endAtOnce() {
        gives("the end at once", nines(257), NOTHING);
        gives("something behind the end", nines(257, 511, 511), NOTHING);
        gives("something behind the end, in its byte", new Streams.Bits().highNumber(257, 9).highNumber(127, 7), NOTHING);
    }

    /** "Each code but the first one makes one": behind two codes there is 258, and behind one there is not. */
    private static void firstCodeMakesNone() {
        stops("258 at first", nines(258), NOTHING, CODE);
        stops("511 at first", nines(511), NOTHING, CODE);
        gives("258 is of the first two", nines(1, 2, 258, 257), Rows.of(1, 2, 1, 2));
        gives("259 is of the next two", nines(1, 2, 3, 259, 257), Rows.of(1, 2, 3, 2, 3));
    }

    /** "it may be that one itself (then the byte is the first one of the code before)". */
    private static void stringOfItself() {
        gives("the second code", nines(65, 258, 257), Rows.of(65, 65, 65));
        gives("behind a string", nines(65, 66, 258, 260, 257), Rows.of(65, 66, 65, 66, 65, 66, 65));
        gives("one behind the other", nines(65, 258, 259, 260, 257), Filtered.many(1 + 2 + 3 + 4, 65));
        gives("behind a clear", nines(65, 66, 256, 67, 258, 257), Rows.of(65, 66, 67, 67, 67));
        // it is there like others: 258 is "AA", 259 "AAA" and 260 "AAB"
        gives("and again", nines(65, 258, 258, 66, 260, 257), Rows.of(65, 65, 65, 65, 65, 66, 65, 65, 66));
    }

    /** "CODE, if there is no such string": one above the next number. */
    private static void noSuchString() {
        stops("one too high", nines(65, 259), Rows.of(65), CODE);
        stops("one too high, later", nines(65, 66, 67, 261), Rows.of(65, 66, 67), CODE);
        stops("the highest of nine bits", nines(65, 511), Rows.of(65), CODE);
        // 3,000 codes make the strings up to 3256, the next one is 3257
        for (int early = 0; early <= 1; early++) {
            for (int code : new int[] {3257, 3258, 4095}) {
                Streams.Bits bits = manyOfOne(3000, early).highNumber(code, 12);
                int place = (bits.length() + 7) / 8;
                StreamFilters x = lzw(bits.highNumber(257, 12).bytes(), early);
                Check.same("code " + code, x.decode(), code == 3257 ? 3002 : 3000);
                if (code == 3257) {
                    Rows.hasNoFault("code " + code, x);
                } else {
                    Rows.hasFault("code " + code, x, 0, CODE, place);
                }
            }
        }
    }

    /** "with the next number from 258 on, if that is at most 4095": 3,839 codes make the last one, and more make none. */
    private static void upToTheLastNumber() {
        for (int early = 0; early <= 1; early++) {
            for (int more = 0; more < 4; more++) {
                Streams.Bits bits = manyOfOne(3838 + more, early).highNumber(4095, 12).highNumber(66, 12)
                        .highNumber(4095, 12).highNumber(4094, 12).highNumber(258, 12).highNumber(257, 12);
                int many = 3838 + more + 2;
                byte[] due = Rows.joined(Filtered.many(many, 65), Rows.of(66), Filtered.many(6, 65));
                StreamFilters x = lzw(bits.bytes(), early);
                Rows.decodesTo("4095 behind " + (3838 + more), x, due);
                Rows.hasNoFault("4095 behind " + (3838 + more), x);
                Check.same("4095 behind " + (3838 + more), x.at(many), 66);
                Check.same("4095 is as it was made", x.at(many + 2), 65);
            }
            Streams.Bits bits = manyOfOne(3837, early).highNumber(4095, 12);
            StreamFilters x = lzw(Rows.joined(bits.bytes(), new byte[3]), early);
            Check.same("4095 is not there yet", x.decode(), 3837);
            Rows.hasFault("4095 is not there yet", x, 0, CODE, (bits.length() + 7) / 8);
        }
    }

    /** Full, and cleared, and full again. */
    private static void fullAndCleared() {
        Streams.Bits bits = manyOfOne(3900, 0).highNumber(256, 12);
        for (int i = 0; i < 300; i++) {
            bits.highNumber(66, widthBehind(i, 0));
        }
        bits.highNumber(258, 10).highNumber(257, 10);
        StreamFilters x = lzw(bits.bytes(), 0);
        Rows.decodesTo("full, and cleared", x, Rows.joined(Filtered.many(3900, 65), Filtered.many(302, 66)));
        Rows.hasNoFault("full, and cleared", x);
    }

    /** "Codes are 10, 11, 12 bits wide when the next number, plus EARLY, has reached 512, 1024, 2048": written out. */
    private static void widths() {
        int[] reached = {512, 1024, 2048};
        for (int early = 0; early <= 1; early++) {
            for (int step = 0; step < 3; step++) {
                // behind n codes the next number is 257 + n
                int codes = reached[step] - early - 257;
                endsWith("just reached", codes, early, 10 + step);
                endsWith("one before", codes - 1, early, 9 + step);
                endsWith("one behind", codes + 1, early, 10 + step);
            }
            endsWith("full", 3839, early, 12);
            endsWith("more than full", 3840, early, 12);
        }
    }

    private static void endsWith(String what, int codes, int early, int width) {
        StreamFilters x = lzw(manyOfOne(codes, early).highNumber(257, width).bytes(), early);
        Rows.decodesTo(what + ", " + codes + " codes, early " + early, x, Filtered.many(codes, 65));
        Rows.hasNoFault(what + ", " + codes + " codes, early " + early, x);
    }

    /** Written without EARLY and read with it, the 255th code has a bit too many: 65 and a 0 are 130. */
    private static void earlyReadsOneBitMore() {
        byte[] row = manyOfOne(254, 0).highNumber(65, 9).highNumber(0, 9).bytes();
        StreamFilters x = lzw(row, 1);
        x.decode();
        Check.same("early, the 254th", x.at(253), 65);
        Check.same("early, the 255th", x.at(254), 130);
        StreamFilters y = lzw(row, 0);
        y.decode();
        Check.same("not early, the 255th", y.at(254), 65);
    }

    /** A code that is not whole: ENDS, when all is begun. */
    private static void codeThatEnds() {
        byte[] row = nines(65, 66, 67, 68, 69, 70, 71, 257).bytes();
        Check.same("eight codes are nine bytes", row.length, 9);
        for (int many = 0; many < 9; many++) {
            int whole = many * 8 / 9;
            StreamFilters x = lzw(Arrays.copyOf(row, many), 0);
            Rows.decodesTo("it ends after " + many, x, Arrays.copyOf(Rows.of(65, 66, 67, 68, 69, 70, 71), whole));
            Rows.hasFault("it ends after " + many, x, 0, StreamFilters.ENDS, many);
        }
    }

    /** 65, and 360 strings that are each one byte longer: 361 * 362 / 2 are 65,341 bytes. */
    private static Streams.Bits longerAndLonger() {
        Streams.Bits bits = new Streams.Bits().highNumber(65, 9);
        for (int i = 1; i < 361; i++) {
            bits.highNumber(257 + i, widthBehind(i, 0));
        }
        return bits;
    }

    /** "What a code stands for comes out", up to the result's 65,536 bytes: in the midst of a string it is OVER. */
    private static void mostBytes() {
        // 195 bytes more make them 65,536: that is what 451 stands for
        StreamFilters x = lzw(longerAndLonger().highNumber(451, 10).highNumber(257, 10).bytes(), 0);
        Rows.decodesTo("65,536 bytes", x, Filtered.many(65536, 65));
        Rows.hasNoFault("65,536 bytes", x);
        Streams.Bits over = longerAndLonger().highNumber(452, 10);
        int place = (over.length() + 7) / 8;
        StreamFilters y = lzw(over.highNumber(257, 10).bytes(), 0);
        Rows.decodesTo("one more", y, Filtered.many(65536, 65));
        Rows.hasFault("one more", y, 0, StreamFilters.OVER, place);
    }
}
