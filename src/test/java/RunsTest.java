import java.util.ArrayList;
import java.util.Arrays;
import java.util.List;
import java.util.Random;

/**
 * Promises 1 to 12: runs of 512 random calls, edges and wrong inputs among them, each answer and
 * each exception compared with what the document says of the state so far.
 */
final class RunsTest {
    private static final int[] EDGES = {Integer.MIN_VALUE, -1, 0, 1, 2, 4, 5, 8, 9, 10, 15, 16, 17, 19, 20, 255, 256,
        4096, 4097, 16383, 16384, 16385, 65536, 65537, Integer.MAX_VALUE};

    private final Random random;
    private final StreamFilters x = new StreamFilters();
    private final List<Model.Filter> chain = new ArrayList<>();
    private final Model model = new Model();
    private byte[] row = new byte[0];
    private int budget = 65536;
    private boolean decoded = false;

    private RunsTest(Random random) {
        this.random = random;
    }

    public static void main(String[] args) {
        for (int run = 0; run < 300; run++) {
            RunsTest test = new RunsTest(new Random(run));
            for (int call = 0; call < 512; call++) {
                test.call("run " + run + ", call " + call + ": ");
            }
        }
        Check.end();
    }

    private int any(int low, int high) {
        return random.nextInt(5) == 0 ? EDGES[random.nextInt(EDGES.length)] : low + random.nextInt(high - low + 1);
    }

    private void call(String what) {
        switch (random.nextInt(14)) {
            case 0, 1, 2 -> feed(what);
            case 3 -> put(what, any(0, Math.max(0, row.length - 1)), any(0, 255));
            case 4 -> cut(what, random.nextInt(4) == 0 ? any(0, 40) : Math.max(0, row.length - random.nextInt(25)));
            case 5 -> filter(what, any(0, 4), any(0, 1));
            case 6 -> predict(what, random.nextBoolean() ? any(10, 15) : any(1, 2), any(1, 8),
                    1 << random.nextInt(5), any(1, 9));
            case 7 -> {
                Check.same(what + "drop()", x.drop(), chain.size());
                chain.clear();
            }
            case 8 -> budget(what, random.nextBoolean() ? 65536 : any(0, 200));
            case 9, 10 -> decode(what);
            case 11 -> at(what, any(0, model.result.length + 1));
            case 12 -> fault(what, any(0, 2));
            default -> keep(what);
        }
    }

    /** Mostly signs and short lengths, so that the filters get somewhere. */
    private int four() {
        String signs = "0123456789abcdefABCDEF> z~s8W-!\n";
        int number = 0;
        int shape = random.nextInt(3);
        for (int i = 0; i < 4; i++) {
            int b = shape == 0 ? random.nextInt(256) : shape == 1 ? random.nextInt(6) + random.nextInt(2) * 125
                    : signs.charAt(random.nextInt(signs.length()));
            number = number << 8 | b;
        }
        return number;
    }

    private void feed(String what) {
        int[] five = {four(), four(), four(), four(), four()};
        int due = row.length + 20 > 16384 ? -1 : row.length + 20;
        if (due > 0) {
            int before = row.length;
            row = Arrays.copyOf(row, due);
            for (int i = 0; i < 20; i++) {
                row[before + i] = (byte) (five[i / 4] >> 24 - 8 * (i % 4));
            }
        }
        Check.same(what + "feed", x.feed(five[0], five[1], five[2], five[3], five[4]), due);
    }

    private void put(String what, int i, int b) {
        String told = what + "put(" + i + ", " + b + ")";
        if (i < 0 || i >= row.length) {
            Check.fails(told, IndexOutOfBoundsException.class, () -> x.put(i, b));
        } else if (b < 0 || b > 255) {
            Check.fails(told, IllegalArgumentException.class, () -> x.put(i, b));
        } else {
            Check.same(told, x.put(i, b), row[i] & 255);
            row[i] = (byte) b;
        }
    }

    private void cut(String what, int many) {
        String told = what + "cut(" + many + ")";
        if (many < 0) {
            Check.fails(told, IllegalArgumentException.class, () -> x.cut(many));
            return;
        }
        int gone = many < row.length ? row.length - many : 0;
        Check.same(told, x.cut(many), gone);
        row = Arrays.copyOf(row, row.length - gone);
    }

    private void filter(String what, int kind, int early) {
        String told = what + "filter(" + kind + ", " + early + ")";
        if (kind < 0 || kind > 4 || early < 0 || early > 1) {
            Check.fails(told, IllegalArgumentException.class, () -> x.filter(kind, early));
        } else if (chain.size() == 8) {
            Check.fails(told, IllegalStateException.class, () -> x.filter(kind, early));
        } else {
            chain.add(new Model.Filter(kind, early, 1, 1, 8, 1));
            Check.same(told, x.filter(kind, early), chain.size());
        }
    }

    private void predict(String what, int predictor, int colours, int bits, int columns) {
        String told = what + "predict(" + predictor + ", " + colours + ", " + bits + ", " + columns + ")";
        boolean known = predictor == 1 || predictor == 2 || predictor >= 10 && predictor <= 15;
        if (!known || colours < 1 || colours > 8 || columns < 1 || columns > 4096) {
            Check.fails(told, IllegalArgumentException.class, () -> predicted(predictor, colours, bits, columns));
        } else if (chain.isEmpty()) {
            Check.fails(told, IllegalStateException.class, () -> predicted(predictor, colours, bits, columns));
        } else {
            Check.same(told, predicted(predictor, colours, bits, columns), 0);
            Model.Filter last = chain.remove(chain.size() - 1);
            chain.add(new Model.Filter(last.kind(), last.early(), predictor, colours, bits, columns));
        }
    }

    private long predicted(int predictor, int colours, int bits, int columns) {
        x.predict(predictor, colours, bits, columns);
        return 0;
    }

    private void budget(String what, int bytes) {
        String told = what + "budget(" + bytes + ")";
        if (bytes < 0 || bytes > 65536) {
            Check.fails(told, IllegalArgumentException.class, () -> x.budget(bytes));
        } else {
            Check.same(told, x.budget(bytes), budget);
            budget = bytes;
        }
    }

    private void decode(String what) {
        decoded = true;
        model.decode(row.clone(), chain, budget);
        Check.same(what + "decode() of " + chain, x.decode(), model.result.length);
    }

    private void at(String what, int i) {
        boolean there = i >= 0 && i < model.result.length;
        Check.same(what + "at(" + i + ")", x.at(i), there ? model.result[i] & 255 : -1);
    }

    private void fault(String what, int which) {
        int due = which == 0 ? model.faultFilter : which == 1 ? model.faultKind : which == 2 ? model.faultPlace : -1;
        Check.same(what + "fault(" + which + ")", x.fault(which), due);
    }

    private void keep(String what) {
        if (decoded && model.result.length > 16384) {
            Check.fails(what + "keep()", IllegalStateException.class, x::keep);
            return;
        }
        row = decoded ? model.result.clone() : row;
        Check.same(what + "keep()", x.keep(), row.length);
    }
}
