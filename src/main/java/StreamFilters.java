/**
 * Bytes go through a chain of filters, under a budget; the first fault is told,
 * and what came out before it is kept.
 *
 * <p>All rows are made with the object and used again, so that no call makes one.
 */
public final class StreamFilters {
    public static final int NONE = -1;
    public static final int ENDS = 1;
    public static final int OVER = 2;
    public static final int HEADER = 3;
    public static final int BLOCK = 4;
    public static final int STORED = 5;
    public static final int CODES = 6;
    public static final int SYMBOL = 7;
    public static final int FAR = 8;
    public static final int CHECK = 9;
    public static final int CODE = 10;
    public static final int RANGE = 11;
    public static final int SIGN = 12;
    public static final int TAG = 13;

    private static final int ROW_LIMIT = 16384;
    private static final int RESULT_LIMIT = 65536;
    private static final int CHAIN_LIMIT = 8;
    private static final int BYTES_OF_FEED = 20;

    private static final int KIND_FLATE = 0;
    private static final int KIND_LZW = 1;
    private static final int KIND_TEXT_85 = 2;
    private static final int KIND_HEXADECIMAL = 3;
    private static final int KIND_LENGTHS = 4;

    private static final int NO_PREDICTOR = 1;
    private static final int NUMBER_PREDICTOR = 2;
    private static final int FIRST_TAG_PREDICTOR = 10;
    private static final int LAST_TAG_PREDICTOR = 15;

    /** Far above what any input needs: 65,536 bytes have 524,288 bits. */
    private static final int TURN_LIMIT = 1000000;

    private final Bytes row = new Bytes(ROW_LIMIT);
    private final Link[] chain = new Link[CHAIN_LIMIT];
    private int filters = 0;
    private int allowed = RESULT_LIMIT;

    private final Pass pass = new Pass();
    private final Flate flate = new Flate();
    private final Lzw lzw = new Lzw();
    private final Text85 text85 = new Text85();
    private final Hexadecimal hexadecimal = new Hexadecimal();
    private final Lengths lengths = new Lengths();

    /** The filters write into these two in turn; one of them is the result. */
    private final Bytes evenOutput = new Bytes(RESULT_LIMIT);
    private final Bytes oddOutput = new Bytes(RESULT_LIMIT);
    private Bytes result = evenOutput;
    private boolean decoded = false;

    private int faultFilter = NONE;
    private int faultKind = NONE;
    private int faultPlace = NONE;

    public StreamFilters() {
        for (int i = 0; i < chain.length; i++) {
            chain[i] = new Link();
        }
    }

    public int feed(int a, int b, int c, int d, int e) {
        if (row.length + BYTES_OF_FEED > ROW_LIMIT) {
            return NONE;
        }
        row.addFour(a);
        row.addFour(b);
        row.addFour(c);
        row.addFour(d);
        row.addFour(e);
        return row.length;
    }

    public int put(int i, int b) throws IndexOutOfBoundsException, IllegalArgumentException {
        if (i < 0 || i >= row.length) {
            throw new IndexOutOfBoundsException("the row has no such byte");
        }
        if (b < 0 || b > 255) {
            throw new IllegalArgumentException("not a byte");
        }
        int before = row.byteAt(i);
        row.change(i, b);
        return before;
    }

    public int cut(int many) throws IllegalArgumentException {
        if (many < 0) {
            throw new IllegalArgumentException("fewer than no bytes");
        }
        int gone = Math.max(0, row.length - many);
        row.length -= gone;
        return gone;
    }

    public int filter(int kind, int early) throws IllegalArgumentException, IllegalStateException {
        if (kind < KIND_FLATE || kind > KIND_LENGTHS) {
            throw new IllegalArgumentException("no such kind of filter");
        }
        if (early < 0 || early > 1) {
            throw new IllegalArgumentException("early is 0 or 1");
        }
        if (filters >= chain.length) {
            throw new IllegalStateException("the chain is full");
        }
        chain[filters].begin(kind, early);
        filters++;
        return filters;
    }

    public void predict(int predictor, int colours, int bits, int columns)
            throws IllegalArgumentException, IllegalStateException {
        if (!isPredictor(predictor)) {
            throw new IllegalArgumentException("no such predictor");
        }
        if (colours < 1 || colours > 8 || !isBits(bits) || columns < 1 || columns > 4096) {
            throw new IllegalArgumentException("no such colours, bits or columns");
        }
        if (filters < 1 || filters > chain.length) {
            throw new IllegalStateException("there is no filter");
        }
        chain[filters - 1].shape(predictor, colours, bits, columns);
    }

    public int drop() {
        int had = filters;
        filters = 0;
        return had;
    }

    public int budget(int bytes) throws IllegalArgumentException {
        if (bytes < 0 || bytes > RESULT_LIMIT) {
            throw new IllegalArgumentException("no such budget");
        }
        int before = allowed;
        allowed = bytes;
        return before;
    }

    public int decode() {
        decoded = true;
        noteFault(NONE, NONE, NONE);
        pass.left = allowed;
        result = evenOutput;
        if (filters == 0) {
            evenOutput.become(row);
        }
        Bytes input = row;
        for (int i = 0; i < filters && i < chain.length && faultKind == NONE; i++) {
            Link link = chain[i];
            result = i % 2 == 0 ? evenOutput : oddOutput;
            pass.begin(input, result);
            unpackerOf(link.kind).unpack(pass, link.early);
            boolean tagsAreGood = link.undo(result);
            if (pass.problem != NONE) {
                noteFault(i, pass.problem, pass.begun);
            } else if (!tagsAreGood) {
                noteFault(i, TAG, pass.begun);
            }
            input = result;
        }
        return result.length;
    }

    public int at(int i) {
        return i >= 0 && i < result.length ? result.byteAt(i) : NONE;
    }

    public int fault(int what) {
        switch (what) {
            case 0:
                return faultFilter;
            case 1:
                return faultKind;
            case 2:
                return faultPlace;
            default:
                return NONE;
        }
    }

    public int keep() throws IllegalStateException {
        if (decoded) {
            if (result.length > ROW_LIMIT) {
                throw new IllegalStateException("the result is longer than a row");
            }
            row.become(result);
        }
        return row.length;
    }

    private static boolean isPredictor(int predictor) {
        return predictor == NO_PREDICTOR || predictor == NUMBER_PREDICTOR
                || (predictor >= FIRST_TAG_PREDICTOR && predictor <= LAST_TAG_PREDICTOR);
    }

    private static boolean isBits(int bits) {
        return bits == 1 || bits == 2 || bits == 4 || bits == 8 || bits == 16;
    }

    private void noteFault(int filter, int kind, int place) {
        faultFilter = filter;
        faultKind = kind;
        faultPlace = place;
    }

    private Unpacker unpackerOf(int kind) {
        switch (kind) {
            case KIND_FLATE:
                return flate;
            case KIND_LZW:
                return lzw;
            case KIND_TEXT_85:
                return text85;
            case KIND_HEXADECIMAL:
                return hexadecimal;
            default:
                return lengths;
        }
    }

    /** A row of bytes that never grows beyond the room it was made with. */
    private static final class Bytes {
        private final byte[] room;
        private int length = 0;

        Bytes(int most) {
            room = new byte[Math.max(0, most)];
        }

        int byteAt(int i) {
            return i >= 0 && i < room.length ? room[i] & 255 : 0;
        }

        void change(int i, int b) {
            if (i >= 0 && i < room.length) {
                room[i] = (byte) b;
            }
        }

        void add(int b) {
            if (length < room.length) {
                room[length] = (byte) b;
                length++;
            }
        }

        void addFour(int number) {
            for (int shift = 24; shift >= 0; shift -= 8) {
                add(number >>> shift);
            }
        }

        void become(Bytes other) {
            length = Math.min(other.length, room.length);
            System.arraycopy(other.room, 0, room, 0, length);
        }
    }

    /** One filter's way through its input: how far it has read, what it gave, its fault. */
    private static final class Pass {
        private Bytes input = new Bytes(0);
        private Bytes output = new Bytes(0);
        private int begun = 0;
        private int current = 0;
        private int bitsLeft = 0;
        private int problem = NONE;
        /** What is left of the budget; it goes on from filter to filter. */
        private int left = 0;

        void begin(Bytes from, Bytes to) {
            input = from;
            output = to;
            output.length = 0;
            begun = 0;
            bitsLeft = 0;
            problem = NONE;
        }

        /** False, so that a caller can end with it. */
        boolean fail(int kind) {
            problem = kind;
            return false;
        }

        /** A whole byte; what is left of the one before is passed over. */
        int nextByte() {
            bitsLeft = 0;
            if (begun >= input.length || begun >= input.room.length) {
                problem = ENDS;
                return NONE;
            }
            current = input.room[begun] & 255;
            begun++;
            return current;
        }

        /** The next byte that is no blank. */
        int nextSign() {
            for (int turn = 0; turn < TURN_LIMIT; turn++) {
                int sign = nextByte();
                if (sign == NONE || !isBlank(sign)) {
                    return sign;
                }
            }
            return NONE;
        }

        private static boolean isBlank(int sign) {
            return sign == 0 || sign == 9 || sign == 10 || sign == 12 || sign == 13 || sign == 32;
        }

        int nextBit(boolean lowestFirst) {
            if (bitsLeft == 0) {
                if (nextByte() == NONE) {
                    return NONE;
                }
                bitsLeft = 8;
            }
            bitsLeft--;
            return (current >> (lowestFirst ? 7 - bitsLeft : bitsLeft)) & 1;
        }

        int lowNumber(int bits) {
            int number = 0;
            for (int i = 0; i < bits; i++) {
                int bit = nextBit(true);
                if (bit == NONE) {
                    return NONE;
                }
                number |= bit << i;
            }
            return number;
        }

        int highNumber(int bits) {
            int number = 0;
            for (int i = 0; i < bits; i++) {
                int bit = nextBit(false);
                if (bit == NONE) {
                    return NONE;
                }
                number = number * 2 + bit;
            }
            return number;
        }

        boolean give(int b) {
            if (left <= 0) {
                return fail(OVER);
            }
            left--;
            output.add(b);
            return true;
        }

        boolean giveTimes(int b, int times) {
            for (int i = 0; i < times; i++) {
                if (!give(b)) {
                    return false;
                }
            }
            return true;
        }

        /** One by one, since what is given again may reach into what it gives. */
        boolean giveAgain(int from, int many) {
            for (int i = 0; i < many; i++) {
                if (!give(output.byteAt(from + i))) {
                    return false;
                }
            }
            return true;
        }

        boolean giveAsTheyAre(int many) {
            for (int i = 0; i < many; i++) {
                int b = nextByte();
                if (b == NONE || !give(b)) {
                    return false;
                }
            }
            return true;
        }
    }

    /** A filter's method; it ends with its data, or with the pass's fault. */
    private abstract static class Unpacker {
        abstract void unpack(Pass pass, int early);
    }

    /** Codes by their lengths; those of a length stand together, as their numbers rise. */
    private static final class Codes {
        private static final int LONGEST = 15;
        private final int[] counts = new int[LONGEST + 1];
        private final int[] places = new int[LONGEST + 1];
        private final int[] symbols;
        private int used = 0;
        private int longest = 0;

        Codes(int most) {
            symbols = new int[Math.max(0, most)];
        }

        void build(int[] lengths, int from, int many) {
            count(lengths, from, many);
            places[0] = 0;
            for (int length = 1; length <= LONGEST; length++) {
                places[length] = places[length - 1] + counts[length - 1];
            }
            for (int i = 0; i < many && from + i < lengths.length; i++) {
                int length = lengths[from + i];
                if (isLength(length) && places[length] < symbols.length) {
                    symbols[places[length]] = i;
                    places[length]++;
                }
            }
        }

        private void count(int[] lengths, int from, int many) {
            used = 0;
            longest = 0;
            for (int length = 0; length <= LONGEST; length++) {
                counts[length] = 0;
            }
            for (int i = 0; i < many && from + i < lengths.length; i++) {
                int length = lengths[from + i];
                if (isLength(length)) {
                    counts[length]++;
                    used++;
                    longest = Math.max(longest, length);
                }
            }
        }

        private static boolean isLength(int length) {
            return length > 0 && length <= LONGEST;
        }

        boolean isEmpty() {
            return used == 0;
        }

        boolean isGood() {
            if (used == 1 && counts[1] == 1) {
                return true;
            }
            int sum = 0;
            for (int length = 1; length <= LONGEST; length++) {
                sum += counts[length] << (LONGEST - length);
            }
            return sum == 1 << LONGEST;
        }

        /** No bit is read when there are no codes: none begins with none. */
        int read(Pass pass) {
            int code = 0;
            int first = 0;
            int place = 0;
            for (int length = 1; length <= longest && length < counts.length; length++) {
                int bit = pass.nextBit(true);
                if (bit == NONE) {
                    return NONE;
                }
                code = code * 2 + bit;
                int spot = place + code - first;
                if (code < first + counts[length] && spot >= 0 && spot < symbols.length) {
                    return symbols[spot];
                }
                place += counts[length];
                first = (first + counts[length]) * 2;
            }
            pass.fail(SYMBOL);
            return NONE;
        }
    }

    private static final class Flate extends Unpacker {
        private static final int LITERALS = 288;
        private static final int DISTANCES = 32;
        private static final int MOST_LITERALS = 286;
        private static final int MOST_DISTANCES = 30;
        private static final int BLOCK_END = 256;
        private static final int CHECK_MODULUS = 65521;
        private static final int[] ORDER = {
            16, 17, 18, 0, 8, 7, 9, 6, 10, 5, 11, 4, 12, 3, 13, 2, 14, 1, 15};
        private static final int[] LENGTH_STARTS = {
            3, 4, 5, 6, 7, 8, 9, 10, 11, 13, 15, 17, 19, 23, 27, 31, 35, 43, 51, 59,
            67, 83, 99, 115, 131, 163, 195, 227, 258};
        private static final int[] LENGTH_BITS = {
            0, 0, 0, 0, 0, 0, 0, 0, 1, 1, 1, 1, 2, 2, 2, 2, 3, 3, 3, 3,
            4, 4, 4, 4, 5, 5, 5, 5, 0};
        private static final int[] DISTANCE_STARTS = {
            1, 2, 3, 4, 5, 7, 9, 13, 17, 25, 33, 49, 65, 97, 129, 193, 257, 385, 513, 769,
            1025, 1537, 2049, 3073, 4097, 6145, 8193, 12289, 16385, 24577};
        private static final int[] DISTANCE_BITS = {
            0, 0, 0, 0, 1, 1, 2, 2, 3, 3, 4, 4, 5, 5, 6, 6, 7, 7, 8, 8,
            9, 9, 10, 10, 11, 11, 12, 12, 13, 13};

        private final Codes fixedLiterals = new Codes(LITERALS);
        private final Codes fixedDistances = new Codes(DISTANCES);
        private final Codes literals = new Codes(LITERALS);
        private final Codes distances = new Codes(DISTANCES);
        private final Codes lengthCodes = new Codes(ORDER.length);
        private final int[] lengths = new int[LITERALS + DISTANCES];

        Flate() {
            int[] fixed = new int[LITERALS + DISTANCES];
            for (int i = 0; i < LITERALS; i++) {
                fixed[i] = i < 144 ? 8 : i < 256 ? 9 : i < 280 ? 7 : 8;
            }
            for (int i = 0; i < DISTANCES; i++) {
                fixed[LITERALS + i] = 5;
            }
            fixedLiterals.build(fixed, 0, LITERALS);
            fixedDistances.build(fixed, LITERALS, DISTANCES);
        }

        void unpack(Pass pass, int early) {
            boolean good = readHeader(pass);
            boolean last = false;
            for (int turn = 0; turn < TURN_LIMIT && good && !last; turn++) {
                int head = pass.lowNumber(3);
                if (head == NONE) {
                    return;
                }
                last = (head & 1) == 1;
                switch (head >> 1) {
                    case 0:
                        good = unpackStored(pass);
                        break;
                    case 1:
                        good = unpackCodes(pass, fixedLiterals, fixedDistances);
                        break;
                    case 2:
                        good = readCodes(pass) && unpackCodes(pass, literals, distances);
                        break;
                    default:
                        good = pass.fail(BLOCK);
                        break;
                }
            }
            if (good) {
                compareCheck(pass);
            }
        }

        private static boolean readHeader(Pass pass) {
            int c = pass.nextByte();
            int f = pass.nextByte();
            if (c == NONE || f == NONE) {
                return false;
            }
            boolean good = (c & 15) == 8 && c / 16 <= 7 && (256 * c + f) % 31 == 0 && (f & 32) == 0;
            return good || pass.fail(HEADER);
        }

        private static boolean unpackStored(Pass pass) {
            int many = readShort(pass);
            int mirror = readShort(pass);
            if (many == NONE || mirror == NONE) {
                return false;
            }
            if (mirror != 65535 - many) {
                return pass.fail(STORED);
            }
            return pass.giveAsTheyAre(many);
        }

        private static int readShort(Pass pass) {
            int low = pass.nextByte();
            int high = pass.nextByte();
            return low == NONE || high == NONE ? NONE : high * 256 + low;
        }

        private boolean readCodes(Pass pass) {
            int literalMany = pass.lowNumber(5) + 257;
            int distanceMany = pass.lowNumber(5) + 1;
            int orderMany = pass.lowNumber(4);
            // Behind the end every read fails, so the last one tells of all three.
            if (orderMany == NONE) {
                return false;
            }
            if (literalMany > MOST_LITERALS || distanceMany > MOST_DISTANCES) {
                return pass.fail(CODES);
            }
            if (!readLengthCodes(pass, orderMany + 4)
                    || !readLengths(pass, literalMany + distanceMany)) {
                return false;
            }
            literals.build(lengths, 0, literalMany);
            distances.build(lengths, literalMany, distanceMany);
            boolean good = literals.isGood() && lengths[BLOCK_END] > 0
                    && (distances.isGood() || distances.isEmpty());
            return good || pass.fail(CODES);
        }

        private boolean readLengthCodes(Pass pass, int many) {
            for (int i = 0; i < ORDER.length; i++) {
                int length = i < many ? pass.lowNumber(3) : 0;
                if (length == NONE) {
                    return false;
                }
                lengths[ORDER[i]] = length;
            }
            lengthCodes.build(lengths, 0, ORDER.length);
            return lengthCodes.isGood() || pass.fail(CODES);
        }

        private boolean readLengths(Pass pass, int many) {
            int known = 0;
            for (int turn = 0; turn < many && known < many; turn++) {
                int symbol = lengthCodes.read(pass);
                int times = symbol == NONE ? NONE : readTimes(pass, symbol);
                if (times == NONE) {
                    return false;
                }
                boolean noneBefore = symbol == 16 && known == 0;
                if (noneBefore || known + times > many || known + times > lengths.length) {
                    return pass.fail(CODES);
                }
                int length = symbol < 16 ? symbol : symbol == 16 ? lengths[known - 1] : 0;
                for (int i = 0; i < times; i++) {
                    lengths[known + i] = length;
                }
                known += times;
            }
            return true;
        }

        private static int readTimes(Pass pass, int symbol) {
            if (symbol < 16) {
                return 1;
            }
            int more = pass.lowNumber(symbol == 16 ? 2 : symbol == 17 ? 3 : 7);
            if (more == NONE) {
                return NONE;
            }
            return more + (symbol == 18 ? 11 : 3);
        }

        private static boolean unpackCodes(Pass pass, Codes literals, Codes distances) {
            for (int turn = 0; turn < TURN_LIMIT; turn++) {
                int symbol = literals.read(pass);
                if (symbol == NONE) {
                    return false;
                }
                if (symbol == BLOCK_END) {
                    return true;
                }
                boolean good = symbol < BLOCK_END ? pass.give(symbol) : copy(pass, symbol, distances);
                if (!good) {
                    return false;
                }
            }
            return false;
        }

        private static boolean copy(Pass pass, int symbol, Codes distances) {
            int kind = symbol - BLOCK_END - 1;
            if (kind < 0 || kind >= LENGTH_STARTS.length || kind >= LENGTH_BITS.length) {
                return pass.fail(SYMBOL);
            }
            int more = pass.lowNumber(LENGTH_BITS[kind]);
            if (more == NONE) {
                return false;
            }
            int distance = readDistance(pass, distances);
            if (distance == NONE) {
                return false;
            }
            int given = pass.output.length;
            if (distance > given) {
                return pass.fail(FAR);
            }
            return pass.giveAgain(given - distance, LENGTH_STARTS[kind] + more);
        }

        private static int readDistance(Pass pass, Codes distances) {
            int kind = distances.read(pass);
            if (kind == NONE) {
                return NONE;
            }
            if (kind < 0 || kind >= DISTANCE_STARTS.length || kind >= DISTANCE_BITS.length) {
                pass.fail(SYMBOL);
                return NONE;
            }
            int more = pass.lowNumber(DISTANCE_BITS[kind]);
            return more == NONE ? NONE : DISTANCE_STARTS[kind] + more;
        }

        private static void compareCheck(Pass pass) {
            long told = 0;
            for (int i = 0; i < 4; i++) {
                int b = pass.nextByte();
                if (b == NONE) {
                    return;
                }
                told = told * 256 + b;
            }
            if (told != checkOf(pass.output)) {
                pass.fail(CHECK);
            }
        }

        private static long checkOf(Bytes bytes) {
            int a = 1;
            int b = 0;
            for (int i = 0; i < bytes.length; i++) {
                a = (a + bytes.byteAt(i)) % CHECK_MODULUS;
                b = (b + a) % CHECK_MODULUS;
            }
            return b * 65536L + a;
        }
    }

    /** Each string lies in the output already: where it begins there and how long it is tells it. */
    private static final class Lzw extends Unpacker {
        private static final int CLEAR = 256;
        private static final int END = 257;
        private static final int FIRST_STRING = 258;
        private static final int STRING_LIMIT = 4096;
        private final int[] starts = new int[STRING_LIMIT];
        private final int[] sizes = new int[STRING_LIMIT];
        private int next = FIRST_STRING;
        private int startBefore = 0;
        /** 0 when there is no code before. */
        private int sizeBefore = 0;

        void unpack(Pass pass, int early) {
            clear();
            for (int turn = 0; turn < TURN_LIMIT; turn++) {
                int code = pass.highNumber(widthFor(next + early));
                if (code == NONE || code == END) {
                    return;
                }
                if (code == CLEAR) {
                    clear();
                } else if (!giveString(pass, code)) {
                    return;
                }
            }
        }

        private void clear() {
            next = FIRST_STRING;
            sizeBefore = 0;
        }

        private static int widthFor(int number) {
            return number >= 2048 ? 12 : number >= 1024 ? 11 : number >= 512 ? 10 : 9;
        }

        private boolean giveString(Pass pass, int code) {
            int start = pass.output.length;
            int size = sizeOf(code);
            if (size == 0) {
                return pass.fail(CODE);
            }
            boolean good = code < CLEAR ? pass.give(code) : pass.giveAgain(startOf(code), size);
            if (!good) {
                return false;
            }
            makeString();
            startBefore = start;
            sizeBefore = size;
            return true;
        }

        /** 0 when there is no such string. */
        private int sizeOf(int code) {
            if (code < CLEAR) {
                return 1;
            }
            if (code >= FIRST_STRING && code < next && code < sizes.length) {
                return sizes[code];
            }
            return code == next && sizeBefore > 0 ? sizeBefore + 1 : 0;
        }

        /** The string that this very code makes begins where the one before did. */
        private int startOf(int code) {
            return code >= 0 && code < next && code < starts.length ? starts[code] : startBefore;
        }

        /** The first byte of the code just given lies behind the string of the one before. */
        private void makeString() {
            if (sizeBefore > 0 && next < starts.length && next < sizes.length) {
                starts[next] = startBefore;
                sizes[next] = sizeBefore + 1;
                next++;
            }
        }
    }

    private static final class Text85 extends Unpacker {
        private static final int FIRST_DIGIT = 33;
        private static final int LAST_DIGIT = 117;
        private static final int FOUR_ZEROS = 122;
        private static final int END = 126;
        private static final int BEHIND_END = 62;
        private static final long HIGHEST = 4294967295L;
        private long number = 0;
        private int digits = 0;

        void unpack(Pass pass, int early) {
            number = 0;
            digits = 0;
            boolean good = true;
            for (int turn = 0; turn < TURN_LIMIT && good; turn++) {
                int sign = pass.nextSign();
                if (sign == NONE) {
                    return;
                }
                if (sign == END) {
                    finish(pass);
                    return;
                }
                if (sign >= FIRST_DIGIT && sign <= LAST_DIGIT) {
                    addDigit(sign - FIRST_DIGIT);
                    good = digits < 5 || giveNumber(pass, 4);
                } else {
                    good = sign == FOUR_ZEROS && digits == 0 ? pass.giveTimes(0, 4) : pass.fail(SIGN);
                }
            }
        }

        private void addDigit(int digit) {
            number = number * 85 + digit;
            digits++;
        }

        private boolean giveNumber(Pass pass, int many) {
            if (number > HIGHEST) {
                return pass.fail(RANGE);
            }
            for (int i = 0; i < many; i++) {
                if (!pass.give((int) (number >> (24 - 8 * i)) & 255)) {
                    return false;
                }
            }
            number = 0;
            digits = 0;
            return true;
        }

        private void finish(Pass pass) {
            int behind = pass.nextByte();
            if (behind == NONE) {
                return;
            }
            if (behind != BEHIND_END || digits == 1) {
                pass.fail(SIGN);
                return;
            }
            int many = digits - 1;
            if (many < 1) {
                return;
            }
            for (int i = digits; i < 5; i++) {
                addDigit(84);
            }
            giveNumber(pass, many);
        }
    }

    private static final class Hexadecimal extends Unpacker {
        private static final int END = 62;

        void unpack(Pass pass, int early) {
            int high = NONE;
            boolean good = true;
            for (int turn = 0; turn < TURN_LIMIT && good; turn++) {
                int sign = pass.nextSign();
                if (sign == NONE) {
                    return;
                }
                int digit = sign == END ? 0 : digitOf(sign);
                if (digit == NONE) {
                    good = pass.fail(SIGN);
                } else if (high == NONE) {
                    high = digit;
                    good = sign != END;
                } else {
                    good = pass.give(high * 16 + digit) && sign != END;
                    high = NONE;
                }
            }
        }

        private static int digitOf(int sign) {
            if (sign >= 48 && sign <= 57) {
                return sign - 48;
            }
            if (sign >= 65 && sign <= 70) {
                return sign - 55;
            }
            return sign >= 97 && sign <= 102 ? sign - 87 : NONE;
        }
    }

    private static final class Lengths extends Unpacker {
        private static final int END = 128;

        void unpack(Pass pass, int early) {
            boolean good = true;
            for (int turn = 0; turn < TURN_LIMIT && good; turn++) {
                int length = pass.nextByte();
                if (length == NONE || length == END) {
                    return;
                }
                good = length < END ? pass.giveAsTheyAre(length + 1) : giveRun(pass, 257 - length);
            }
        }

        private static boolean giveRun(Pass pass, int times) {
            int b = pass.nextByte();
            return b != NONE && pass.giveTimes(b, times);
        }
    }

    /** One filter of the chain: its kind, and how its predictor is undone. */
    private static final class Link {
        private static final int LAST_TAG = 4;
        private int kind = KIND_FLATE;
        private int early = 0;
        private int predictor = NO_PREDICTOR;
        private int colours = 1;
        private int bits = 8;
        private int columns = 1;

        void begin(int newKind, int newEarly) {
            kind = newKind;
            early = newEarly;
            predictor = NO_PREDICTOR;
        }

        void shape(int newPredictor, int newColours, int newBits, int newColumns) {
            predictor = newPredictor;
            colours = newColours;
            bits = newBits;
            columns = newColumns;
        }

        /** In place; false when a tag is none, and only the rows before it are left. */
        boolean undo(Bytes bytes) {
            if (predictor == NUMBER_PREDICTOR) {
                undoNumbers(bytes);
            }
            return predictor < FIRST_TAG_PREDICTOR || undoTags(bytes);
        }

        /** 1 at least, since no part of the shape is below 1. */
        private int rowSize() {
            return Math.max(1, (columns * colours * bits + 7) / 8);
        }

        private void undoNumbers(Bytes bytes) {
            int size = rowSize();
            for (int start = 0; start < bytes.length; start += size) {
                int there = Math.min(size, bytes.length - start);
                int wholes = Math.min(columns * colours, there * 8 / Math.max(1, bits));
                for (int i = colours; i < wholes; i++) {
                    int before = numberAt(bytes, start, i - colours);
                    setNumber(bytes, start, i, before + numberAt(bytes, start, i));
                }
            }
        }

        private int numberAt(Bytes bytes, int start, int i) {
            int place = start + i * bits / 8;
            if (bits == 16) {
                return bytes.byteAt(place) * 256 + bytes.byteAt(place + 1);
            }
            return (bytes.byteAt(place) >> shiftOf(i)) & mask();
        }

        private void setNumber(Bytes bytes, int start, int i, int number) {
            int place = start + i * bits / 8;
            if (bits == 16) {
                bytes.change(place, number >> 8);
                bytes.change(place + 1, number);
                return;
            }
            int others = bytes.byteAt(place) & ~(mask() << shiftOf(i));
            bytes.change(place, others | (number & mask()) << shiftOf(i));
        }

        private int shiftOf(int i) {
            return 8 - bits - i * bits % 8;
        }

        private int mask() {
            return (1 << bits) - 1;
        }

        /** What is written never reaches what is still to be read: each row loses its tag. */
        private boolean undoTags(Bytes bytes) {
            int size = rowSize();
            int written = 0;
            boolean good = true;
            for (int start = 0; start < bytes.length && good; start += size + 1) {
                int tag = bytes.byteAt(start);
                good = tag <= LAST_TAG;
                if (good) {
                    int there = Math.min(size, bytes.length - start - 1);
                    undoRow(bytes, tag, start + 1, written, there);
                    written += there;
                }
            }
            bytes.length = written;
            return good;
        }

        private void undoRow(Bytes bytes, int tag, int from, int to, int many) {
            int unit = Math.max(1, colours * bits / 8);
            int size = rowSize();
            for (int i = 0; i < many; i++) {
                int spot = to + i;
                boolean hasLeft = i >= unit;
                boolean hasAbove = to >= size;
                int left = hasLeft ? bytes.byteAt(spot - unit) : 0;
                int above = hasAbove ? bytes.byteAt(spot - size) : 0;
                int corner = hasLeft && hasAbove ? bytes.byteAt(spot - size - unit) : 0;
                int guess = guessOf(tag, left, above, corner);
                bytes.change(spot, bytes.byteAt(from + i) + guess);
            }
        }

        private static int guessOf(int tag, int left, int above, int corner) {
            switch (tag) {
                case 1:
                    return left;
                case 2:
                    return above;
                case 3:
                    return (left + above) / 2;
                case 4:
                    return nearest(left, above, corner);
                default:
                    return 0;
            }
        }

        private static int nearest(int left, int above, int corner) {
            int aim = left + above - corner;
            int byLeft = Math.abs(aim - left);
            int byAbove = Math.abs(aim - above);
            int byCorner = Math.abs(aim - corner);
            if (byLeft <= byAbove && byLeft <= byCorner) {
                return left;
            }
            return byAbove <= byCorner ? above : corner;
        }
    }
}
