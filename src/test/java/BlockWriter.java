import java.util.ArrayList;
import java.util.Arrays;
import java.util.List;
import java.util.Random;

/** Writes FLATE streams with random blocks: odd codes, odd lengths, odd distances, all of them mostly good. */
final class BlockWriter {
    private static final int[] ORDER = {16, 17, 18, 0, 8, 7, 9, 6, 10, 5, 11, 4, 12, 3, 13, 2, 14, 1, 15};
    private static final int[] LENGTH_BITS = {0, 0, 0, 0, 0, 0, 0, 0, 1, 1, 1, 1, 2, 2, 2, 2, 3, 3, 3, 3,
        4, 4, 4, 4, 5, 5, 5, 5, 0};

    private final Random random;
    private final Streams.Bits bits = new Streams.Bits();

    private BlockWriter(Random random) {
        this.random = random;
    }

    static byte[] write(Random random) {
        BlockWriter writer = new BlockWriter(random);
        int many = 1 + random.nextInt(3);
        for (int i = 0; i < many; i++) {
            writer.bits.lowNumber(i == many - 1 ? 1 : 0, 1);
            writer.block(random.nextInt(8));
        }
        return Rows.joined(Rows.of(0x78, 0x9C), writer.bits.bytes(), Rows.of(1, 2, 3, 4));
    }

    private void block(int choice) {
        if (choice == 0) {
            int many = random.nextInt(6);
            bits.lowNumber(0, 2).wholeByte().lowNumber(many, 16).lowNumber(65535 - many, 16);
            for (int i = 0; i < many; i++) {
                bits.lowNumber(random.nextInt(256), 8);
            }
        } else if (choice < 3) {
            bits.lowNumber(1, 2);
            int[] literals = new int[288];
            for (int i = 0; i < 288; i++) {
                literals[i] = i < 144 ? 8 : i < 256 ? 9 : i < 280 ? 7 : 8;
            }
            int[] distances = new int[32];
            Arrays.fill(distances, 5);
            symbols(literals, distances);
        } else {
            bits.lowNumber(2, 2);
            ownCodes();
        }
    }

    private void ownCodes() {
        int[] literals = new int[257 + random.nextInt(30)];
        int[] distances = new int[1 + random.nextInt(random.nextBoolean() ? 4 : 30)];
        fill(literals, 1 + random.nextInt(40), 15);
        if (literals[256] == 0 && random.nextInt(20) > 0) {
            swapInto(literals, 256);
        }
        if (random.nextInt(5) > 0) {
            fill(distances, 1 + random.nextInt(distances.length), 15);
        }
        int[] all = new int[literals.length + distances.length];
        System.arraycopy(literals, 0, all, 0, literals.length);
        System.arraycopy(distances, 0, all, literals.length, distances.length);
        bits.lowNumber(literals.length - 257, 5).lowNumber(distances.length - 1, 5);
        writeLengths(all);
        symbols(literals, distances);
    }

    /** Lengths of a complete code, or one of length 1, at random places. */
    private void fill(int[] lengths, int many, int longest) {
        List<Integer> tree = new ArrayList<>(List.of(many == 1 ? 1 : 0));
        while (many > 1 && tree.size() < Math.min(many, lengths.length)) {
            int leaf = random.nextInt(tree.size());
            if (tree.get(leaf) < longest) {
                int length = tree.remove(leaf) + 1;
                tree.add(length);
                tree.add(length);
            }
        }
        if (tree.size() == 1) {
            tree.set(0, 1);
        }
        for (int length : tree) {
            int place = random.nextInt(lengths.length);
            while (lengths[place] != 0) {
                place = (place + 1) % lengths.length;
            }
            lengths[place] = length;
        }
    }

    private static void swapInto(int[] lengths, int place) {
        for (int i = lengths.length - 1; i >= 0; i--) {
            if (lengths[i] != 0) {
                lengths[place] = lengths[i];
                lengths[i] = 0;
                return;
            }
        }
    }

    private void writeLengths(int[] all) {
        List<int[]> steps = steps(all);
        boolean[] used = new boolean[19];
        int many = 0;
        for (int[] step : steps) {
            many += used[step[0]] ? 0 : 1;
            used[step[0]] = true;
        }
        int[] shapes = new int[many];
        fill(shapes, many, 7);
        int[] lengths = new int[19];
        int next = 0;
        for (int i = 0; i < 19; i++) {
            lengths[i] = used[i] ? shapes[next++] : 0;
        }
        int order = 19;
        while (order > 4 && lengths[ORDER[order - 1]] == 0 && random.nextInt(10) > 0) {
            order--;
        }
        bits.lowNumber(order - 4, 4);
        for (int i = 0; i < order; i++) {
            bits.lowNumber(lengths[ORDER[i]], 3);
        }
        String[] codes = codes(lengths);
        for (int[] step : steps) {
            bits.code(codes[step[0]]);
            bits.lowNumber(step[1], step[0] == 16 ? 2 : step[0] == 17 ? 3 : step[0] == 18 ? 7 : 0);
        }
    }

    /** Pairs of a symbol and its further number. */
    private List<int[]> steps(int[] all) {
        List<int[]> steps = new ArrayList<>();
        if (random.nextInt(60) == 0) {
            steps.add(new int[] {16, random.nextInt(4)});
        }
        int i = 0;
        while (i < all.length) {
            int run = 1;
            while (i + run < all.length && all[i + run] == all[i]) {
                run++;
            }
            // now and then one more than there are
            int most = run + (random.nextInt(200) == 0 ? 1 : 0);
            if (all[i] == 0 && most >= 11 && random.nextInt(8) > 0) {
                int times = 11 + random.nextInt(Math.min(128, most - 10));
                steps.add(new int[] {18, times - 11});
                i += times;
            } else if (all[i] == 0 && most >= 3 && random.nextInt(8) > 0) {
                int times = 3 + random.nextInt(Math.min(8, most - 2));
                steps.add(new int[] {17, times - 3});
                i += times;
            } else if (i > 0 && all[i - 1] == all[i] && most >= 3 && random.nextInt(4) > 0) {
                int times = 3 + random.nextInt(Math.min(4, most - 2));
                steps.add(new int[] {16, times - 3});
                i += times;
            } else {
                steps.add(new int[] {all[i], 0});
                i++;
            }
        }
        return steps;
    }

    private static String[] codes(int[] lengths) {
        String[] codes = new String[lengths.length];
        int code = 0;
        for (int length = 1; length <= 15; length++) {
            code *= 2;
            for (int i = 0; i < lengths.length; i++) {
                if (lengths[i] == length) {
                    String text = Integer.toBinaryString(1 << length | code);
                    codes[i] = text.substring(text.length() - length);
                    code++;
                }
            }
        }
        return codes;
    }

    private void symbols(int[] literals, int[] distances) {
        String[] ofLiterals = codes(literals);
        String[] ofDistances = codes(distances);
        int known = 0;
        int many = random.nextInt(25);
        for (int i = 0; i < many; i++) {
            int symbol = pick(ofLiterals, known > 0 && random.nextInt(3) == 0 ? 257 : 0);
            if (symbol == 256) {
                continue;
            }
            bits.code(ofLiterals[symbol]);
            known++;
            if (symbol > 256 && symbol < 286) {
                bits.lowNumber(random.nextInt(32), LENGTH_BITS[symbol - 257]);
                int distance = pick(ofDistances, 0);
                if (ofDistances[distance] != null) {
                    bits.code(ofDistances[distance]);
                    int extra = distance < 4 || distance > 29 ? 0 : distance / 2 - 1;
                    bits.lowNumber(random.nextInt(4) == 0 ? random.nextInt(1 << extra) : 0, extra);
                }
            }
        }
        if (ofLiterals[256] != null) {
            bits.code(ofLiterals[256]);
        }
    }

    /** A symbol that has a code, from this one on if there is one. */
    private int pick(String[] codes, int from) {
        int place = from < codes.length ? from + random.nextInt(codes.length - from) : random.nextInt(codes.length);
        for (int i = 0; i < codes.length && codes[place] == null; i++) {
            place = (place + 1) % codes.length;
        }
        return place;
    }
}
