import java.util.ArrayList;
import java.util.Arrays;
import java.util.List;
import java.util.Random;

/** Promises 9 to 12: random streams, good and spoilt, through random chains, against the model. */
final class ModelTest {
    private static final int[] BITS = {1, 2, 4, 8, 16};
    private static final int[] PREDICTORS = {1, 1, 1, 2, 10, 11, 12, 13, 14, 15};
    private static final int[] counts = new int[14];

    private ModelTest() {
    }

    public static void main(String[] args) {
        Random random = new Random(8);
        for (int turn = 0; turn < 12000; turn++) {
            compare("turn " + turn, random);
        }
        for (int turn = 0; turn < 6000; turn++) {
            compareBlocks("blocks " + turn, random);
        }
        for (int fault = 1; fault <= 13; fault++) {
            Check.isTrue("fault " + fault + " was there " + counts[fault] + " times", counts[fault] >= 20);
        }
        Check.isTrue("no fault was there " + counts[0] + " times", counts[0] >= 20);
        System.out.println("no fault, and each fault, so many times: " + Arrays.toString(counts));
        Check.end();
    }

    private static void compare(String what, Random random) {
        List<Model.Filter> chain = new ArrayList<>();
        byte[] row = plain(random);
        int many = random.nextInt(10) == 0 ? random.nextInt(9) : 1 + random.nextInt(2);
        for (int i = 0; i < many; i++) {
            Model.Filter filter = anyFilter(random);
            byte[] packed = packed(row, filter, random);
            if (packed.length > 2000) {
                break;
            }
            row = packed;
            chain.add(0, filter);
        }
        if (random.nextInt(3) > 0) {
            row = spoilt(row, random);
        }
        int budget = random.nextInt(4) == 0 ? random.nextInt(400) : 65536;
        compare(what, row, chain, budget, random);
    }

    /** FLATE with blocks that a packer would hardly write, a bit of which may be spoilt. */
    private static void compareBlocks(String what, Random random) {
        byte[] row = BlockWriter.write(random);
        if (random.nextInt(2) == 0) {
            int bit = 16 + random.nextInt(8 * row.length - 16);
            row[bit / 8] ^= (byte) (1 << bit % 8);
        }
        if (random.nextInt(6) == 0) {
            row = Arrays.copyOf(row, random.nextInt(row.length));
        }
        int budget = random.nextInt(8) == 0 ? random.nextInt(400) : 65536;
        compare(what, row, List.of(new Model.Filter(0, 0, 1, 1, 8, 1)), budget, random);
    }

    private static void compare(String what, byte[] row, List<Model.Filter> chain, int budget, Random random) {
        Model model = new Model();
        model.decode(row, chain, budget);
        StreamFilters x = new StreamFilters();
        if (random.nextBoolean()) {
            // what an earlier decoding leaves behind must not be seen
            Rows.load(x, Rows.of(128, 11, 96, 80, 34, 12, 12, 133, 1));
            x.filter(1, 1);
            x.decode();
            x.drop();
        }
        Rows.load(x, row);
        for (Model.Filter filter : chain) {
            x.filter(filter.kind(), filter.early());
            x.predict(filter.predictor(), filter.colours(), filter.bits(), filter.columns());
        }
        x.budget(budget);
        String told = what + " " + chain + " budget " + budget;
        Rows.decodesTo(told, x, model.result);
        Rows.hasFault(told, x, model.faultFilter, model.faultKind, model.faultPlace);
        if (model.result.length <= 16384) {
            Check.same(told + ": keep()", x.keep(), model.result.length);
            Check.same(told + ": cut(0)", x.cut(0), model.result.length);
        }
        counts[Math.max(0, model.faultKind)]++;
    }

    private static byte[] plain(Random random) {
        byte[] row = new byte[random.nextInt(random.nextInt(20) == 0 ? 1200 : 120)];
        int values = 1 + random.nextInt(random.nextBoolean() ? 4 : 256);
        for (int i = 0; i < row.length; i++) {
            row[i] = (byte) random.nextInt(values);
        }
        return row;
    }

    private static Model.Filter anyFilter(Random random) {
        int predictor = PREDICTORS[random.nextInt(PREDICTORS.length)];
        return new Model.Filter(random.nextInt(5), random.nextInt(2), predictor,
                1 + random.nextInt(random.nextBoolean() ? 2 : 8), BITS[random.nextInt(5)],
                random.nextInt(20) == 0 ? 4096 : 1 + random.nextInt(12));
    }

    private static byte[] packed(byte[] row, Model.Filter filter, Random random) {
        byte[] bytes = filter.predictor() < 10 ? row : withTags(row, filter, random);
        switch (filter.kind()) {
            case 0:
                return Streams.flateOf(bytes, random.nextInt(10), random.nextInt(3));
            case 1:
                return Streams.lzwOf(bytes, filter.early(), 1 + random.nextInt(2000));
            case 2:
                return Streams.text85Of(bytes);
            case 3:
                return Streams.digitsOf(bytes);
            default:
                return Streams.lengthsOf(bytes);
        }
    }

    /** Only the tags are set in; whatever bytes follow them, the predictor makes something of them. */
    private static byte[] withTags(byte[] row, Model.Filter filter, Random random) {
        int size = (filter.columns() * filter.colours() * filter.bits() + 7) / 8;
        byte[] out = new byte[row.length + row.length / size + 1];
        int to = 0;
        for (int i = 0; i < row.length; i++) {
            if (i % size == 0) {
                out[to++] = (byte) (random.nextInt(150) == 0 ? 5 : random.nextInt(5));
            }
            out[to++] = row[i];
        }
        return Arrays.copyOf(out, to);
    }

    private static byte[] spoilt(byte[] row, Random random) {
        byte[] out = row.clone();
        int many = random.nextInt(3);
        for (int i = 0; i < many && out.length > 0; i++) {
            int place = random.nextInt(out.length);
            switch (random.nextInt(3)) {
                case 0:
                    out[place] = (byte) random.nextInt(256);
                    break;
                case 1:
                    out[place] ^= (byte) (1 << random.nextInt(8));
                    break;
                default:
                    // high digits, so that numbers of 85 signs are too high
                    out[place] = (byte) (115 + random.nextInt(3));
                    break;
            }
        }
        if (random.nextInt(3) == 0) {
            out = Arrays.copyOf(out, random.nextInt(out.length + 3));
        }
        return out;
    }
}
