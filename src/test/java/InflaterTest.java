import java.util.Arrays;
import java.util.Map;
import java.util.Random;
import java.util.zip.DataFormatException;
import java.util.zip.Inflater;

/**
 * Promise 9 to 11, FLATE: good and spoilt streams against the Java library's own unpacker, which
 * was written by others and from another document. The fault, its place and the bytes before it
 * are the same, but for what StreamFilters' document says otherwise (see isTheDocumentsOwn).
 */
final class InflaterTest {
    private static final int TURNS = 8000;
    private static final String LENGTH_CODES = "invalid code lengths set";
    private static final String NO_DISTANCE = "invalid distance code";
    private static final Map<String, Integer> FAULTS = Map.ofEntries(
            Map.entry("incorrect header check", StreamFilters.HEADER),
            Map.entry("unknown compression method", StreamFilters.HEADER),
            Map.entry("invalid window size", StreamFilters.HEADER),
            Map.entry("a dictionary is asked for", StreamFilters.HEADER),
            Map.entry("invalid block type", StreamFilters.BLOCK),
            Map.entry("invalid stored block lengths", StreamFilters.STORED),
            Map.entry("too many length or distance symbols", StreamFilters.CODES),
            Map.entry(LENGTH_CODES, StreamFilters.CODES),
            Map.entry("invalid bit length repeat", StreamFilters.CODES),
            Map.entry("invalid code -- missing end-of-block", StreamFilters.CODES),
            Map.entry("invalid literal/lengths set", StreamFilters.CODES),
            Map.entry("invalid distances set", StreamFilters.CODES),
            Map.entry("invalid literal/length code", StreamFilters.SYMBOL),
            Map.entry(NO_DISTANCE, StreamFilters.SYMBOL),
            Map.entry("invalid distance too far back", StreamFilters.FAR),
            Map.entry("incorrect data check", StreamFilters.CHECK));

    /** What the library says of a stream; no words: it is good. */
    private record Told(int fault, String words, int place, byte[] bytes) {
    }

    private InflaterTest() {
    }

    public static void main(String[] args) {
        Random random = new Random(12);
        int[] counts = new int[14];
        int own = 0;
        for (int turn = 0; turn < TURNS; turn++) {
            byte[] row = spoilt(random.nextInt(3) == 0 ? packed(random) : BlockWriter.write(random), random);
            Told told = libraryOf(row);
            StreamFilters x = Rows.loaded(row, 0);
            int many = x.decode();
            counts[Math.max(0, told.fault)]++;
            if (isTheDocumentsOwn(told, x)) {
                own++;
            } else {
                String what = "turn " + turn + " (" + told.words + ")";
                Check.same(what + ": decode()", many, told.bytes.length);
                Rows.looksLike(what, x, told.bytes);
                boolean good = told.fault == StreamFilters.NONE;
                Rows.hasFault(what, x, good ? StreamFilters.NONE : 0, told.fault, told.place);
            }
        }
        System.out.println("no fault, and each fault, so many times: " + Arrays.toString(counts)
                + ", the document's own way " + own + " times");
        Check.isTrue("the document's own way is seldom met", own < TURNS / 100);
        Check.isTrue("good ones were there", counts[0] >= 20);
        for (int fault = StreamFilters.HEADER; fault <= StreamFilters.CHECK; fault++) {
            Check.isTrue("fault " + fault + " was there", counts[fault] >= 20);
        }
        Check.end();
    }

    /**
     * The document takes just one code of length 1 for lengths too, which the library refuses; it
     * refuses at once that there are none, which the library does later; and where there are no
     * codes for distances no bit is read, while the library reads one.
     */
    private static boolean isTheDocumentsOwn(Told told, StreamFilters x) {
        int place = x.fault(2);
        boolean later = place == StreamFilters.NONE || place > told.place;
        boolean oneTaken = LENGTH_CODES.equals(told.words) && later;
        boolean noneRefused = x.fault(1) == StreamFilters.CODES && place < told.place;
        boolean noBitRead = NO_DISTANCE.equals(told.words)
                && x.fault(1) == StreamFilters.SYMBOL && place == told.place - 1;
        return oneTaken || noneRefused || noBitRead;
    }

    private static byte[] packed(Random random) {
        byte[] bytes = new byte[random.nextInt(600)];
        int values = 1 + random.nextInt(random.nextBoolean() ? 4 : 256);
        for (int i = 0; i < bytes.length; i++) {
            bytes[i] = (byte) random.nextInt(values);
        }
        return Streams.flateOf(bytes, random.nextInt(10), random.nextInt(3));
    }

    private static byte[] spoilt(byte[] row, Random random) {
        byte[] out = row.clone();
        int many = random.nextInt(4);
        for (int i = 0; i < many; i++) {
            // mostly near the front, where the codes are
            int bit = random.nextInt(random.nextInt(4) == 0 ? 8 * out.length : Math.min(8 * out.length, 250));
            out[bit / 8] ^= (byte) (1 << bit % 8);
        }
        return random.nextInt(6) == 0 ? Arrays.copyOf(out, random.nextInt(out.length + 3)) : out;
    }

    /** The place is the length of the shortest beginning that the library refuses. */
    private static Told libraryOf(byte[] row) {
        Told whole = libraryOf(row, row.length);
        if (whole.fault == StreamFilters.NONE || whole.fault == StreamFilters.ENDS) {
            return whole;
        }
        int low = 0;
        int high = row.length;
        while (low < high) {
            int middle = (low + high) / 2;
            if (libraryOf(row, middle).fault == StreamFilters.ENDS) {
                low = middle + 1;
            } else {
                high = middle;
            }
        }
        return libraryOf(row, high);
    }

    private static Told libraryOf(byte[] row, int length) {
        byte[] room = new byte[65536];
        int given = 0;
        Inflater library = new Inflater();
        try {
            library.setInput(row, 0, length);
            int more;
            do {
                more = library.inflate(room, given, room.length - given);
                given += more;
            } while (more > 0);
            if (library.needsDictionary()) {
                return refused("a dictionary is asked for", length, room, given);
            }
            return library.finished()
                    ? new Told(StreamFilters.NONE, "", StreamFilters.NONE, Arrays.copyOf(room, given))
                    : new Told(StreamFilters.ENDS, "it ends", length, Arrays.copyOf(room, given));
        } catch (DataFormatException e) {
            return refused(e.getMessage(), length, room, (int) library.getBytesWritten());
        } finally {
            library.end();
        }
    }

    private static Told refused(String words, int length, byte[] room, int given) {
        return new Told(FAULTS.getOrDefault(words, 0), words, length, Arrays.copyOf(room, given));
    }
}
