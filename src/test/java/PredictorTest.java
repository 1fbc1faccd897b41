import java.util.Arrays;
import java.util.Random;

/** Promises 6 and 9, predictors: numbers, tags, shorter rows, the fault TAG. */
final class PredictorTest {
    private PredictorTest() {
    }

    public static void main(String[] args) {
        numbersByHand();
        numbersPacked();
        tagsByHand();
        nearest();
        tagsPacked();
        units();
        wrongTags();
        tagsAndFaults();
        inAChain();
        Check.end();
    }

    private static StreamFilters predicted(byte[] bytes, int predictor, int colours, int bits, int columns) {
        StreamFilters x = Rows.loaded(Streams.lengthsOf(bytes), 4);
        x.predict(predictor, colours, bits, columns);
        return x;
    }

    private static void undone(String what, StreamFilters x, byte[] due) {
        Rows.decodesTo(what, x, due);
        Rows.hasNoFault(what, x);
    }

    private static void numbersByHand() {
        undone("8 bits", predicted(Rows.of(250, 3, 4, 1, 1, 1), 2, 1, 8, 3), Rows.of(250, 253, 1, 1, 2, 3));
        undone("8 bits, a shorter row", predicted(Rows.of(1, 1, 1, 1, 1), 2, 1, 8, 3), Rows.of(1, 2, 3, 1, 2));
        undone("two colours", predicted(Rows.of(1, 10, 1, 10, 1, 10), 2, 2, 8, 3), Rows.of(1, 10, 2, 20, 3, 30));
        undone("16 bits", predicted(Rows.of(0, 255, 0, 1, 255, 0), 2, 1, 16, 3), Rows.of(0, 255, 1, 0, 0, 0));
        undone("16 bits, one that is not whole", predicted(Rows.of(0, 255, 0, 1, 255), 2, 1, 16, 3),
                Rows.of(0, 255, 1, 0, 255));
        // 1, 1, 1 and a bit that fills up five times
        undone("1 bit", predicted(Rows.of(0b11111111, 0b11111111), 2, 1, 1, 3), Rows.of(0b10111111, 0b10111111));
        undone("2 bits", predicted(Rows.of(0b01011111), 2, 1, 2, 3), Rows.of(0b01100111));
        undone("4 bits", predicted(Rows.of(0x8F, 0x2F), 2, 1, 4, 3), Rows.of(0x87, 0x9F));
        undone("4 bits, three colours", predicted(Rows.of(0x12, 0x3F, 0x11), 2, 3, 4, 2), Rows.of(0x12, 0x30, 0x34));
        undone("nothing", predicted(Rows.of(), 2, 1, 8, 1), Rows.of());
        undone("predictor 1", predicted(Rows.of(1, 1, 1), 1, 1, 8, 3), Rows.of(1, 1, 1));
    }

    /** Takes the numbers' differences, by the bits' own text. */
    private static byte[] differences(byte[] plain, int colours, int bits, int columns) {
        int size = (columns * colours * bits + 7) / 8;
        byte[] out = plain.clone();
        for (int start = 0; start < plain.length; start += size) {
            StringBuilder text = new StringBuilder();
            for (int i = start; i < Math.min(start + size, plain.length); i++) {
                text.append(Integer.toBinaryString(256 + (plain[i] & 255)).substring(1));
            }
            StringBuilder less = new StringBuilder(text);
            for (int k = colours; k < columns * colours && (k + 1) * bits <= text.length(); k++) {
                int number = Integer.parseInt(text.substring(k * bits, (k + 1) * bits), 2);
                int before = Integer.parseInt(text.substring((k - colours) * bits, (k - colours + 1) * bits), 2);
                String digits = Integer.toBinaryString((1 << bits) + Math.floorMod(number - before, 1 << bits));
                less.replace(k * bits, (k + 1) * bits, digits.substring(1));
            }
            for (int i = 0; i < less.length(); i += 8) {
                out[start + i / 8] = (byte) Integer.parseInt(less.substring(i, i + 8), 2);
            }
        }
        return out;
    }

    private static void numbersPacked() {
        Random random = new Random(6);
        for (int bits : new int[] {1, 2, 4, 8, 16}) {
            for (int colours = 1; colours <= 8; colours++) {
                for (int columns : new int[] {1, 2, 3, 7, 50, 4096}) {
                    byte[] plain = new byte[random.nextInt(300)];
                    random.nextBytes(plain);
                    undone("numbers " + bits + " " + colours + " " + columns,
                            predicted(differences(plain, colours, bits, columns), 2, colours, bits, columns), plain);
                }
            }
        }
    }

    private static void tagsByHand() {
        for (int predictor = 10; predictor <= 15; predictor++) {
            undone("tag 0", predicted(Rows.of(0, 1, 2, 3), predictor, 1, 8, 3), Rows.of(1, 2, 3));
            undone("tag 1", predicted(Rows.of(1, 250, 2, 9), predictor, 1, 8, 3), Rows.of(250, 252, 5));
            undone("tag 2, first row", predicted(Rows.of(2, 1, 2, 3), predictor, 1, 8, 3), Rows.of(1, 2, 3));
            undone("tag 2", predicted(Rows.of(0, 255, 2, 3, 2, 1, 2, 3), predictor, 1, 8, 3), Rows.of(255, 2, 3, 0, 4, 6));
            undone("tag 3, first row", predicted(Rows.of(3, 5, 5, 5), predictor, 1, 8, 3), Rows.of(5, 7, 8));
            undone("tag 3", predicted(Rows.of(0, 255, 255, 3, 3, 1, 1, 1), predictor, 1, 8, 3),
                    Rows.of(255, 255, 3, 128, 192, 98));
            undone("tag 4, first row", predicted(Rows.of(4, 5, 5, 5), predictor, 1, 8, 3), Rows.of(5, 10, 15));
            undone("a shorter row", predicted(Rows.of(0, 1, 2, 3, 2, 1, 2), predictor, 1, 8, 3), Rows.of(1, 2, 3, 2, 4));
            undone("only a tag", predicted(Rows.of(0, 1, 2, 3, 4), predictor, 1, 8, 3), Rows.of(1, 2, 3));
        }
        undone("nothing", predicted(Rows.of(), 10, 1, 8, 3), Rows.of());
        undone("no row has ended", predicted(Rows.of(1, 1, 1), 10, 8, 16, 4096), Rows.of(1, 1));
    }

    private static void nearest() {
        // rows of two: c b / a and the one that is looked at, which tells the guess
        for (int a = 0; a < 256; a += 15) {
            for (int b = 0; b < 256; b += 17) {
                for (int c = 0; c < 256; c += 5) {
                    int aim = a + b - c;
                    int due = a;
                    if (Math.abs(aim - b) < Math.abs(aim - due)) {
                        due = b;
                    }
                    if (Math.abs(aim - c) < Math.abs(aim - due)) {
                        due = c;
                    }
                    StreamFilters x = Rows.loaded(Rows.of(5, 0, c, b, 4, a - c, 0, 128), 4);
                    x.predict(14, 1, 8, 2);
                    x.decode();
                    Check.same("nearest of " + a + ", " + b + ", " + c, x.at(3), due);
                }
            }
        }
    }

    /** Puts a tag in front of each row and takes the guesses away, all from the plain bytes. */
    private static byte[] tagged(byte[] plain, int unit, int size, Random random) {
        byte[] out = new byte[plain.length + (plain.length + size - 1) / size];
        int to = 0;
        for (int start = 0; start < plain.length; start += size) {
            int tag = random.nextInt(5);
            out[to++] = (byte) tag;
            for (int i = start; i < Math.min(start + size, plain.length); i++) {
                int a = i - start >= unit ? plain[i - unit] & 255 : 0;
                int b = start > 0 ? plain[i - size] & 255 : 0;
                int c = start > 0 && i - start >= unit ? plain[i - size - unit] & 255 : 0;
                int[] three = {a, b, c};
                int best = a;
                for (int one : three) {
                    if (Math.abs(a + b - c - one) < Math.abs(a + b - c - best)) {
                        best = one;
                    }
                }
                int[] guesses = {0, a, b, (a + b) / 2, best};
                out[to++] = (byte) (plain[i] - guesses[tag]);
            }
        }
        return out;
    }

    private static void tagsPacked() {
        Random random = new Random(7);
        for (int bits : new int[] {1, 2, 4, 8, 16}) {
            for (int colours = 1; colours <= 8; colours++) {
                for (int columns : new int[] {1, 2, 3, 7, 50, 4096}) {
                    byte[] plain = new byte[random.nextInt(300)];
                    random.nextBytes(plain);
                    int size = (columns * colours * bits + 7) / 8;
                    int unit = Math.max(1, colours * bits / 8);
                    undone("tags " + bits + " " + colours + " " + columns,
                            predicted(tagged(plain, unit, size, random), 10 + columns % 6, colours, bits, columns), plain);
                }
            }
        }
    }

    private static void units() {
        undone("4 bits: 1 at least", predicted(Rows.of(1, 1, 1, 1), 11, 1, 4, 6), Rows.of(1, 2, 3));
        undone("24 bits: 3", predicted(Rows.of(1, 1, 2, 3, 1, 2, 3), 11, 3, 8, 2), Rows.of(1, 2, 3, 2, 4, 6));
        undone("16 bits: 2", predicted(Rows.of(1, 1, 2, 1, 2), 11, 1, 16, 2), Rows.of(1, 2, 2, 4));
        // the document's words: so many bytes as there are in these bits, and 12 bits are one
        undone("12 bits: 1", predicted(Rows.of(1, 1, 1, 1), 11, 3, 4, 2), Rows.of(1, 2, 3));
    }

    private static void wrongTags() {
        for (int tag = 5; tag < 256; tag += 50) {
            StreamFilters x = predicted(Rows.of(tag, 1, 2, 0, 3, 4), 15, 1, 8, 2);
            Rows.decodesTo("the first tag", x, Rows.of());
            Rows.hasFault("the first tag", x, 0, StreamFilters.TAG, Streams.lengthsOf(Rows.of(tag, 1, 2, 0, 3, 4)).length);
        }
        StreamFilters x = predicted(Rows.of(2, 1, 2, 2, 3, 4, 5, 6, 7, 0, 1, 1), 10, 1, 8, 2);
        Rows.decodesTo("the third tag", x, Rows.of(1, 2, 4, 6));
        Check.same("the third tag", x.fault(1), StreamFilters.TAG);
        x = Rows.loaded(Rows.ofText("00010200030405 >>>"), 3);
        x.predict(10, 1, 8, 2);
        Rows.decodesTo("a tag alone", x, Rows.of(1, 2, 3, 4));
        Rows.hasFault("a tag alone: the filter has read its end too", x, 0, StreamFilters.TAG, 16);
    }

    private static void tagsAndFaults() {
        StreamFilters x = Rows.loaded(Rows.ofText("000102 090304 ?"), 3);
        x.predict(10, 1, 8, 2);
        Rows.decodesTo("the filter's own fault goes first", x, Rows.of(1, 2));
        Rows.hasFault("the filter's own fault goes first", x, 0, StreamFilters.SIGN, 15);
        x = Rows.loaded(Rows.ofText("000102 0203"), 3);
        x.predict(10, 1, 8, 2);
        Rows.decodesTo("of a fault what came before is undone", x, Rows.of(1, 2, 4));
        Rows.hasFault("of a fault what came before is undone", x, 0, StreamFilters.ENDS, 11);
        x = Rows.loaded(Rows.ofText("01010101>"), 3);
        x.predict(2, 1, 8, 4);
        x.budget(3);
        Rows.decodesTo("the budget counts before the predictor", x, Rows.of(1, 2, 3));
        Rows.hasFault("the budget counts before the predictor", x, 0, StreamFilters.OVER, 8);
        x.predict(10, 1, 8, 1);
        Rows.decodesTo("the budget counts tags", x, Rows.of(1));
        Rows.hasFault("the budget counts tags", x, 0, StreamFilters.OVER, 8);
        x.budget(4);
        Rows.decodesTo("the budget counts tags", x, Rows.of(1, 1));
        Rows.hasNoFault("the budget counts tags", x);
    }

    private static void inAChain() {
        // "41>" as differences, then as digits
        StreamFilters x = Rows.loaded(Rows.ofText("34FD0D>"), 3, 3);
        Rows.decodesTo("without a predictor", x, Rows.of());
        Rows.hasFault("without a predictor", x, 1, StreamFilters.SIGN, 2);
        x.drop();
        x.filter(3, 0);
        x.predict(2, 1, 8, 3);
        x.filter(3, 0);
        undone("the next filter has what the predictor gave", x, Rows.of(0x41));
        x = Rows.loaded(Rows.ofText("0034310734343E>"), 3);
        x.predict(10, 1, 8, 2);
        x.filter(3, 0);
        Rows.decodesTo("a tag stops the chain", x, Rows.ofText("41"));
        Rows.hasFault("a tag stops the chain", x, 0, StreamFilters.TAG, 15);
        byte[] many = new byte[60000];
        Arrays.fill(many, (byte) 1);
        x = Rows.loaded(Streams.lengthsOf(many), 4);
        x.predict(2, 8, 16, 4096);
        Check.same("a long row", x.decode(), 60000);
        Check.same("a long row", x.at(16 * 3), 4);
    }
}
